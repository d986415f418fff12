/-! THE CONSTRUCTORS: a world of cells at addresses that come one by one -/
theorem va_joinL {A0 : Nat → Prop} {D : va_G} {cl : List vw_C} {wr w1 : va_W} {x : Nat × va_E} {H H1 : Heap} (hP : va_P D cl (wr ++ [x]) H) (hD : va_D A0 (wr ++ [x])) (hk : ∀ q : Nat, q < H.size → ¬ va_A [x] H.size q → H1[q]? = H[q]?) (hF : ∀ q, va_A [x] H.size q → A0 q) (hP1 : va_P D cl w1 H1) (hD1 : va_D (va_A [x] H.size) w1) : va_P D cl (wr ++ w1) H1 ∧ va_D A0 (wr ++ w1) := by
  have hwr : ∀ i, i < wr.length → (wr ++ [x])[i]? = wr[i]? := fun i hi => List.getElem?_append_left hi
  have hx : (wr ++ [x])[wr.length]? = some x := by rw [List.getElem?_append_right (Nat.le_refl _), Nat.sub_self]; rfl
  have apart : ∀ (k : Nat) (q : Nat × va_E), wr[k]? = some q → q.1 < H.size ∧ ¬ va_A [x] H.size q.1 := by
    intro k q hq
    have hkl := (List.getElem?_eq_some_iff.mp hq).1
    have h1 : (wr ++ [x])[k]? = some q := by rw [hwr k hkl]; exact hq
    refine ⟨(hP k q h1).lt, fun h => ?_⟩
    rcases h with ⟨k2, e, h⟩ | h
    · have hk2 : k2 < 1 := (List.getElem?_eq_some_iff.mp h).1
      have hk2 : k2 = 0 := by omega
      subst hk2
      have hxe : x = (q.1, e) := Option.some.inj h
      have := hD.1 k wr.length q x h1 hx (by rw [hxe])
      omega
    · have := (hP k q h1).lt
      omega
  refine ⟨va_P.app (fun k q hq => ?_) hP1, va_D.app ⟨fun i j p q hi hj hpq => ?_, fun k q hq => ?_⟩ (hD1.weaken (fun k q _ h => hF q.1 h)) (fun i j p q hp hq hpq => ?_)⟩
  · have hkl := (List.getElem?_eq_some_iff.mp hq).1
    obtain ⟨g1, g2⟩ := apart k q hq
    exact (hP k q (by rw [hwr k hkl]; exact hq)).kept (hk q.1 g1 g2)
  · have h1 := (List.getElem?_eq_some_iff.mp hi).1
    have h2 := (List.getElem?_eq_some_iff.mp hj).1
    exact hD.1 i j p q (by rw [hwr i h1]; exact hi) (by rw [hwr j h2]; exact hj) hpq
  · have h1 := (List.getElem?_eq_some_iff.mp hq).1
    exact hD.2 k q (by rw [hwr k h1]; exact hq)
  · exact (apart i p hp).2 (by rw [hpq]; exact hD1.2 j q hq)
def Cb (K : Kt) (nL : Nat) (A0 : Nat → Prop) (cs : Nat × Nat) (ws : va_W) (Q : State → Prop) (pc : Nat) (lv : List (Nat × Value)) (st : List Value) : Prop :=
  ∀ (H : Heap) (locs : List Loc) (ls : Array Slot), va_P K.G.D vwCl ws H → va_D A0 ws → va_S A0 K.s.heap H locs → lv_has ls nL lv →
    W K.p K.l K.e K.R K.s K.m K.args K.below K.meth K.c H locs cs.1 cs.2 Q (F0 K.m pc ls st)
/-- what holds of a new cell's region: all that comes, and nothing below z -/
def Rg (K : Kt) (A0 : Nat → Prop) : Prop := (∀ q, K.s.heap.size ≤ q → A0 q) ∧ ∀ q, A0 q → K.G.z ≤ q
def Wb (G : Gh) (A0 : Nat → Prop) (ws : va_W) (U : State) : Prop := va_P G.D vwCl ws U.heap ∧ va_D A0 ws ∧ va_K G.D vwCl (tysOf G) U ∧ TxOk G U U.heap ∧ G.z ≤ U.heap.size
def Cob (l : Launch) (G : Gh) (y : MethodName) (cc : ByteArray) (nL fr lo mc ms : Nat) (e0 : va_E) (F : (Nat → Nat) → va_W) : Prop :=
  ∀ h0 sz : Nat, AdOk G → G.z ≤ h0 → Met l y (.code y cc nL none :: gtb) { frames := fr, cells := mc, slots := ms, locals := lo } (va_Pc [.ref h0] (fun U => U.heap.size = sz ∧ Wb G (fun _ => True) [(h0, e0)] U))
    (va_Qv (fun B : Nat → Nat => B 0 = h0) (fun B t => Wb G (va_A [(h0, e0)] sz) (F B) t) (va_A [(h0, e0)] sz)) mc ms (va_A [(h0, e0)] sz)
section CTOR
variable {K : Kt} {nL : Nat} {A0 : Nat → Prop} {cs : Nat × Nat} {ws : va_W} {Q : State → Prop} {pc : Nat} {lv : List (Nat × Value)} {st : List Value} {cc : ByteArray} {own : String} {rm : Room}
theorem q_aload {q : Fin 4} {i : Nat} {x : Nat} (hO : Ok K cc own nL rm) (hi : (q : Nat) = i) (hg : lget lv i = some (.ref x)) (d : decode cc pc = .ok (.aload_n q, 1)) (k : Cb K nL A0 cs ws Q (pc + 1) lv (.ref x :: st)) : Cb K nL A0 cs ws Q pc lv st := fun H locs ls hP hD hS hl => lv_aload_n hO.x hO.b d hi (lv_get hl hg) (k H locs ls hP hD hS hl)
theorem q_iconst {n : Int} {v : Int32} (hO : Ok K cc own nL rm) (hv : Int32.ofInt n = v) (d : decode cc pc = .ok (.iconst n, 1)) (k : Cb K nL A0 cs ws Q (pc + 1) lv (.int v :: st)) : Cb K nL A0 cs ws Q pc lv st := fun H locs ls hP hD hS hl => lv_iconst hO.x hO.b d hv (k H locs ls hP hD hS hl)
theorem q_bipush {n : Int} {v : Int32} (hO : Ok K cc own nL rm) (hv : (Int8.ofInt n).toInt32 = v) (d : decode cc pc = .ok (.bipush n, 2)) (k : Cb K nL A0 cs ws Q (pc + 2) lv (.int v :: st)) : Cb K nL A0 cs ws Q pc lv st := fun H locs ls hP hD hS hl => lv_bipush hO.x hO.b d hv (k H locs ls hP hD hS hl)
theorem q_sipush {n : Int} {v : Int32} (hO : Ok K cc own nL rm) (hv : (Int16.ofInt n).toInt32 = v) (d : decode cc pc = .ok (.sipush n, 3)) (k : Cb K nL A0 cs ws Q (pc + 3) lv (.int v :: st)) : Cb K nL A0 cs ws Q pc lv st := fun H locs ls hP hD hS hl => lv_sipush hO.x hO.b d hv (k H locs ls hP hD hS hl)
theorem q_ldc {index : Nat} {v : Int32} (hO : Ok K cc own nL rm) (hc : Cond.constant own index v ∈ gtb) (d : decode cc pc = .ok (.ldc index, 2)) (k : Cb K nL A0 cs ws Q (pc + 2) lv (.int v :: st)) : Cb K nL A0 cs ws Q pc lv st := fun H locs ls hP hD hS hl => lv_ldc hO.x hO.b hO.own (hO.ts _ hc) d (k H locs ls hP hD hS hl)
theorem q_dup {v : Value} (hO : Ok K cc own nL rm) (hv : v.category = 1) (d : decode cc pc = .ok (.dup, 1)) (k : Cb K nL A0 cs ws Q (pc + 1) lv (v :: v :: st)) : Cb K nL A0 cs ws Q pc lv (v :: st) := fun H locs ls hP hD hS hl => lv_dup hO.x hO.b d hv (k H locs ls hP hD hS hl)
theorem q_obj {idx : Nat} {a : Nat} (hO : Ok K cc own nL rm) (hl0 : Cond.methodLink own idx objectInit ∈ gtb) (hi : Cond.instanceMethod objectInit ∈ gtb) (hc : Cond.code objectInit ⟨#[0xb1]⟩ 1 none ∈ gtb) (d : decode cc pc = .ok (.invokespecial idx, 3)) (hf : 1 ≤ rm.frames) (hlo : (st.map fun v => v.category).sum + 12 ≤ rm.locals) (k : Cb K nL A0 cs ws Q (pc + 3) lv st) : Cb K nL A0 cs ws Q pc lv (.ref a :: st) := fun H locs ls hP hD hS hl => W.objInit hO.x hO.b hO.own (hO.ts _ hl0) (hO.ts _ hi) (hO.ts _ hc) rfl (by rw [hO.ml]; exact hl.1) rfl d (by rw [hO.rm]; exact hf) (by rw [hO.rm]; show 2 * 0 + _ + 12 ≤ _; omega) (k H locs ls hP hD hS hl)
theorem q_newa {atype : ArrayType} {ty : FieldType} {cA : ClassId} {a0 : vp_A} {n : Int32} {N t0 : Nat} (hO : Ok K cc own nL rm) (hg : Rg K A0) (harr : Cond.arrayClass (newarray.typeOf atype) ∈ gtb) (hty : newarray.typeOf atype = ty) (ht : (tysOf K.G)[t0]? = some (cA, ty)) (hra : va_RA K.s cA ty → K.s.vm.findClass ("[" ++ ty.toString) = some cA) (hra2 : ∀ c2, va_RA K.s c2 ty → K.s.vm.findClass ("[" ++ ty.toString) = some c2) (ha : ∀ cA : ClassId, vp_cell cA a0 = arrV cA N (fun _ => defaultValue ty)) (hn : ¬ n < 0) (hN : n.toNatClampNeg = N) (hbytes : N * componentBytes ty ≤ 536870912) (hc : cs.1 + 1 ≤ rm.cells) (hs : cs.2 + N ≤ rm.slots) (d : decode cc pc = .ok (.newarray atype, 2)) (k : ∀ q : Nat, Cb K nL A0 (cs.1 + 1, cs.2 + N) (ws ++ [(q, .inl (cA, a0))]) Q (pc + 2) lv (.ref q :: st)) : Cb K nL A0 cs ws Q pc lv (.int n :: st) := by
  intro H locs ls hP hD hS hl
  refine va_newa hO.x hO.b (hO.ts _ harr) hty hO.k hP hD hS hg.1 ha hn hN hbytes (by rw [hO.rm]; exact hc) (by rw [hO.rm]; exact hs) d (fun q c2 H1 hK2 hP2 hD2 hS2 => ?_)
  have e1 := hra2 c2 (hK2.2 (tysOf K.G).length (c2, ty) (by rw [List.getElem?_append_right (Nat.le_refl _), Nat.sub_self]; rfl)).2
  have e2 := hra (hO.k.2 t0 _ ht).2
  have e3 : c2 = cA := Option.some.inj (e1.symm.trans e2)
  subst e3
  exact k q H1 locs ls hP2 hD2 hS2 hl
theorem q_new {C : String} {T : u_T} {N ci index : Nat} {fs : List Value} (ty : Nat → FieldType) (hO : Ok K cc own nL rm) (hg : Rg K A0) (hin : ∀ w ∈ u_ws C T N, w ∈ gtb) (hty : ∀ k, k < N → parseFieldDescriptor (T k).2.2.1 = some (ty k)) (hcl : Cond.classLink own index C ∈ gtb) (hinst : Cond.instantiable C N ∈ gtb) (hini : Cond.initialized C ∈ gtb) (hc : vwCl[ci]? = some (C, T, N)) (hfs : ∀ j, j < N → defaultValue (ty j) = vp_V fs j) (hcc : cs.1 + 1 ≤ rm.cells) (hs : cs.2 + N ≤ rm.slots) (d : decode cc pc = .ok (.new index, 3)) (k : ∀ q : Nat, A0 q → Cb K nL A0 (cs.1 + 1, cs.2 + N) (ws ++ [(q, .inr (ci, fs))]) Q (pc + 3) lv (.ref q :: st)) : Cb K nL A0 cs ws Q pc lv st := by
  intro H locs ls hP hD hS hl
  refine va_new hO.x hO.b hO.ts hin ty hty hO.own (hO.ts _ hcl) (hO.ts _ hinst) (hO.ts _ hini) hO.k hP hD hS hg.1 hc hfs (by rw [hO.rm]; exact hcc) (by rw [hO.rm]; exact hs) d (fun q H1 hP2 hD2 hS2 => ?_)
  exact k q (hD2.2 ws.length _ (by rw [List.getElem?_append_right (Nat.le_refl _), Nat.sub_self]; rfl)) H1 locs ls hP2 hD2 hS2 hl
theorem q_put {C : String} {T : u_T} {N ci index q0 a : Nat} (j : Nat) {fs : List Value} {v : Value} {ty : FieldType} {ws' : va_W} (hO : Ok K cc own nL rm) (hin : ∀ w ∈ u_ws C T N, w ∈ gtb) (ty0 : Nat → FieldType) (hty : ∀ k, k < N → parseFieldDescriptor (T k).2.2.1 = some (ty0 k)) (hnm : ∀ a, a < N → ∀ b, b < N → a ≠ b → (T a).2.1 ≠ (T b).2.1) (hc : vwCl[ci]? = some (C, T, N)) (he : ws[q0]? = some (a, .inr (ci, fs))) (hj : j < N) (hl0 : Cond.fieldLink own index (T j).1 (T j).2.1 (T j).2.2.1 ∈ gtb) (hfin : (T j).2.2.2 = false) (hd : parseFieldDescriptor (T j).2.2.1 = some ty) (hn : narrow ty v = v) (hfit : fits ty v = true) (hlen : j < fs.length) (hw : ws.set q0 (a, .inr (ci, fs.set j v)) = ws') (d : decode cc pc = .ok (.putfield index, 3)) (k : Cb K nL A0 cs ws' Q (pc + 3) lv st) : Cb K nL A0 cs ws Q pc lv (v :: .ref a :: st) := fun H locs ls hP hD hS hl =>
  va_put hO.x hO.b hO.ts hin ty0 hty hnm hO.own hO.k hP hD hS q0 he hc j hj (hO.ts _ hl0) (fun _ h9 => h9) hfin hd hn hfit hlen d (fun H1 locs1 hP1 hD1 hS1 => k H1 locs1 ls (by rw [← hw]; exact hP1) (by rw [← hw]; exact hD1) hS1 hl)
theorem q_putF {C : String} {T : u_T} {N ci index q0 a : Nat} (j : Nat) {fs : List Value} {v : Value} {ty : FieldType} {ws' : va_W} (hO : Ok K cc own nL rm) (hin2 : K.meth.name = "<init>") (hin : ∀ w ∈ u_ws C T N, w ∈ gtb) (ty0 : Nat → FieldType) (hty : ∀ k, k < N → parseFieldDescriptor (T k).2.2.1 = some (ty0 k)) (hnm : ∀ a, a < N → ∀ b, b < N → a ≠ b → (T a).2.1 ≠ (T b).2.1) (hc : vwCl[ci]? = some (C, T, N)) (he : ws[q0]? = some (a, .inr (ci, fs))) (hj : j < N) (hl0 : Cond.fieldLink own index (T j).1 (T j).2.1 (T j).2.2.1 ∈ gtb) (hfin : (T j).2.2.2 = true) (hdecl : (T j).1 = own) (hd : parseFieldDescriptor (T j).2.2.1 = some ty) (hn : narrow ty v = v) (hfit : fits ty v = true) (hlen : j < fs.length) (hw : ws.set q0 (a, .inr (ci, fs.set j v)) = ws') (d : decode cc pc = .ok (.putfield index, 3)) (k : Cb K nL A0 cs ws' Q (pc + 3) lv st) : Cb K nL A0 cs ws Q pc lv (v :: .ref a :: st) := fun H locs ls hP hD hS hl =>
  va_putF hO.x hO.b hO.ts hin ty0 hty hnm hO.own hO.k hP hD hS q0 he hc j hj (hO.ts _ hl0) (fun _ h9 => h9) hfin hin2 hdecl hd hn hfit hlen d (fun H1 locs1 hP1 hD1 hS1 => k H1 locs1 ls (by rw [← hw]; exact hP1) (by rw [← hw]; exact hD1) hS1 hl)
theorem Wb_of {H : Heap} {locs : List Loc} {t : State} (hO : Ok K cc own nL rm) (hg : Rg K A0) (hP : va_P K.G.D vwCl ws H) (hD : va_D A0 ws) (hS : va_S A0 K.s.heap H locs) (ht : t.heap = H) (hW : K.s.WarmedH t.vm) : Wb K.G A0 ws t := by
  refine ⟨by rw [ht]; exact hP, hD, va_K.moved hW.alike hO.k, ?_, by rw [ht]; exact Nat.le_trans hO.z hS.1⟩
  rw [ht]
  exact (hO.tx.kept (fun a h1 h2 => hS.2.1 a h1 (fun h3 => h2 (hg.2 a h3)))).moved hW
theorem q_ret {e0 : va_E} {h0 mc ms : Nat} {B : Nat → Nat} {F : (Nat → Nat) → va_W} (hO : Ok K cc own nL rm) (hr : K.meth.sig.returnType = none) (hg : Rg K (va_A [(h0, e0)] K.s.heap.size)) (hB : B 0 = h0) (hF : ws = F B) (h1 : cs.1 ≤ mc) (h2 : cs.2 ≤ ms) (d : decode cc pc = .ok (.return_, 1)) : Cb K nL (va_A [(h0, e0)] K.s.heap.size) cs ws (MQ K.below (va_Qv (fun B : Nat → Nat => B 0 = h0) (fun B t => Wb K.G (va_A [(h0, e0)] K.s.heap.size) (F B) t) (va_A [(h0, e0)] K.s.heap.size)) K.args K.s mc ms (va_A [(h0, e0)] K.s.heap.size)) pc lv [] := by
  intro H locs ls hP hD hS hl
  subst hF
  refine W.widen (k := mc) (n := ms) h1 h2 ?_
  exact W.vret hO.x hO.b hr (fun t ht hW => ⟨⟨B, rfl, hB, Wb_of hO hg hP hD hS ht hW⟩, hS.F ht⟩) hS.2.2 d (hlocks := hO.lk)
theorem Cob.of {l : Launch} {G : Gh} {y : MethodName} {fr lo mc ms : Nat} {e0 : va_E} {F : (Nat → Nat) → va_W} (hy : plainFor y = true) (hown : y.cls = own) (hnm : y.name = "<init>") (hlen : 1 ≤ nL)
    (h : ∀ (K : Kt) (h0 : Nat), K.l = l → K.G = G → Ok K cc own nL { frames := fr, cells := mc, slots := ms, locals := lo } → K.meth.sig.returnType = none → K.meth.name = "<init>" → Rg K (va_A [(h0, e0)] K.s.heap.size) → Cb K nL (va_A [(h0, e0)] K.s.heap.size) (0, 0) [(h0, e0)] (MQ K.below (va_Qv (fun B : Nat → Nat => B 0 = h0) (fun B t => Wb K.G (va_A [(h0, e0)] K.s.heap.size) (F B) t) (va_A [(h0, e0)] K.s.heap.size)) K.args K.s mc ms (va_A [(h0, e0)] K.s.heap.size)) 0 [(0, .ref h0)] []) : Cob l G y cc nL fr lo mc ms e0 F := by
  intro h0 sz hAd hz0
  refine va_MetF (cc := cc) (maxL := nL) (ret := none) hy rfl ?_
  intro p e s m args below meth c s₁ B hml hv
  obtain ⟨rfl, rfl, hP, hD, hK, hT, hz⟩ := hv
  have hts := atoms_spec (ws := .code y cc nL none :: gtb) B.pre
  have hl := lv_entry [.ref h0] (n := nL) hlen
  rw [lg_entry_eq]
  exact h ((p, l, e, { frames := fr, cells := mc, slots := ms, locals := lo }, s), (m, ([.ref h0] : List Value).toArray, below, meth, c), (G, fun _ _ => True)) h0 rfl rfl
    ⟨B.exec, B.bytes, hml, by rw [← hown]; exact findClass_of_methodNamed B.named, fun w hw => hts w (List.mem_cons_of_mem _ hw), hK, hAd, B.notSynchronized, hT, hz, rfl⟩ B.returns ((name_of_methodNamed B.named B.method).1.trans hnm)
    ⟨fun q hq => Or.inr hq, fun q hq => by
      rcases hq with ⟨k, e9, h9⟩ | h9
      · have hk : k < 1 := (List.getElem?_eq_some_iff.mp h9).1
        have hk : k = 0 := by omega
        subst hk
        cases h9
        exact hz0
      · exact Nat.le_trans hz h9⟩ s.heap [] _ hP hD.self va_S.rf hl
def CalI (y : MethodName) (bytes : ByteArray) (maxL : Nat) : Prop := Cond.code y bytes maxL none ∈ gtb ∧ Cond.instanceMethod y ∈ gtb ∧ Cond.initialized y.cls ∈ gtb ∧ y.name = "<init>" ∧ y.cls ≠ "java/lang/invoke/MethodHandle" ∧ y.cls ≠ "java/lang/invoke/VarHandle" ∧ (parseMethodDescriptor y.desc).map (fun d => d.parameters.length) = some 0
theorem Wb_blind {G : Gh} {A1 : Nat → Prop} {vs : List Value} {sz : Nat} {w : va_W} : FrameBlind (va_Pc vs (fun U => U.heap.size = sz ∧ Wb G A1 w U)) := by
  intro a U g mk q
  obtain ⟨q0, q1, qP, qD, qK, qT, qz⟩ := q
  exact ⟨q0, q1, qP, qD, va_K.moved (u := U) (U := U.calling g mk a) (Vm.Alike.refl U.vm) qK, qT.same rfl, qz⟩
variable {y : MethodName} {bytes : ByteArray} {maxL fr lo mc ms index : Nat} {e0 : va_E} {F : (Nat → Nat) → va_W} {host : String}
theorem wb_call {H H1 : Heap} {locs1 : List Loc} {x : Nat} {ls : Array Slot} {t : State} {B : Nat → Nat} {cs2 : Nat × Nat} {pc2 : Nat} {st2 : List Value} (hP : va_P K.G.D vwCl (ws ++ [(x, e0)]) H) (hD : va_D A0 (ws ++ [(x, e0)])) (hF9 : ∀ q, va_A [(x, e0)] H.size q → A0 q) (ht : t.heap = H1) (hB : Wb K.G (va_A [(x, e0)] H.size) (F B) t) (hk1 : ∀ q : Nat, q < H.size → ¬ va_A [(x, e0)] H.size q → H1[q]? = H[q]?) (hS1 : va_S A0 K.s.heap H1 locs1) (hl : lv_has ls nL lv)
    (k : Cb K nL A0 cs2 (ws ++ F B) Q pc2 lv st2) : W K.p K.l K.e K.R K.s K.m K.args K.below K.meth K.c H1 locs1 cs2.1 cs2.2 Q (F0 K.m pc2 ls st2) := by
  have hP1 : va_P K.G.D vwCl (F B) H1 := by rw [← ht]; exact hB.1
  obtain ⟨hP2, hD2⟩ := va_joinL hP hD hk1 hF9 hP1 hB.2.1
  exact k H1 locs1 ls hP2 hD2 hS1 hl
theorem wb_free {H : Heap} {locs : List Loc} {x : Nat} (hg : Rg K A0) (hx : A0 x) (hS : va_S A0 K.s.heap H locs) : ∀ q, va_A [(x, e0)] H.size q → A0 q := by
  intro q hq
  rcases hq with ⟨k, e9, h9⟩ | h9
  · have hk : k < 1 := (List.getElem?_eq_some_iff.mp h9).1
    have hk : k = 0 := by omega
    subst hk
    cases h9
    exact hx
  · exact hg.1 q (Nat.le_trans hS.1 h9)
/-- a nest mate's constructor, over the newest cell -/
theorem q_initN {x : Nat} (hO : Ok K cc own nL rm) (hg : Rg K A0) (hx : A0 x) (hM : Cob K.l K.G y bytes maxL fr lo mc ms e0 F) (hC : CalI y bytes maxL) (hlink : (own, index, y, host) ∈ nsL) (hcat : Nat.ble ((st.map fun v => v.category).sum) 8 = true) (hR1 : Nat.ble (fr + 1) rm.frames = true) (hR2 : Nat.ble (8 + (maxL + 11) + lo) rm.locals = true) (hc1 : cs.1 + mc ≤ rm.cells) (hc2 : cs.2 + ms ≤ rm.slots) (d : decode cc pc = .ok (.invokespecial index, 3))
    (k : ∀ B : Nat → Nat, B 0 = x → Cb K nL A0 (cs.1 + mc, cs.2 + ms) (ws ++ F B) Q (pc + 3) lv st) : Cb K nL A0 cs (ws ++ [(x, e0)]) Q pc lv (.ref x :: st) := by
  intro H locs ls hP hD hS hl
  have hF9 := wb_free (e0 := e0) hg hx hS
  have hPc : va_P K.G.D vwCl [(x, e0)] H := fun j q hj => by
    have hk : j < 1 := (List.getElem?_eq_some_iff.mp hj).1
    have hk : j = 0 := by omega
    subst hk
    cases hj
    exact hP ws.length _ (by rw [List.getElem?_append_right (Nat.le_refl _), Nat.sub_self]; rfl)
  have hDc : va_D (fun _ => True) [(x, e0)] := ⟨fun i j p q hi hj _ => by
    have h1 : i < 1 := (List.getElem?_eq_some_iff.mp hi).1
    have h2 : j < 1 := (List.getElem?_eq_some_iff.mp hj).1
    omega, fun _ _ _ => trivial⟩
  have hnl := hO.tx.2.2.2.1 (own, index, y, host) hlink
  refine va_callv (va_runIN (As := []) (rest := st) ⟨hO.x, hO.b, hO.ml, hO.own, hO.ts⟩ (hM x H.size hO.ad (hg.2 x hx)) ⟨va_cnB 0 hO.ts (goodIn_c hC.1) rfl rfl rfl hnl (hO.ts _ hC.2.2.1) hC.2.2.2.2 ⟨by rw [hO.rm]; exact Nat.le_of_ble_eq_true hR1, by rw [hO.rm]; exact Nat.le_of_ble_eq_true hR2⟩, hC.2.2.2.1, hO.ts _ hC.2.1⟩ ⟨Wb_blind, fun U hU hW => ⟨rfl, by rw [hU], ?_⟩⟩ rfl rfl hl.1 rfl (lv_room (Nat.le_of_ble_eq_true hcat)) d ⟨by rw [hO.rm]; exact hc1, by rw [hO.rm]; exact hc2⟩) hS (fun q _ h => hF9 q h) hF9 (fun B t H1 locs1 ht hvm hw hB hz1 hk1 hS1 => wb_call hP hD hF9 ht hB hk1 hS1 hl (k B hw))
  obtain ⟨-, -, w3, w4, w5⟩ := Wb_of hO hg hP hD hS hU hW
  exact ⟨by rw [hU]; exact hPc, hDc, w3, w4, w5⟩
/-- a constructor that anyone may call -/
theorem q_initI {x : Nat} (hO : Ok K cc own nL rm) (hg : Rg K A0) (hx : A0 x) (hM : Cob K.l K.G y bytes maxL fr lo mc ms e0 F) (hC : CalI y bytes maxL) (hlink : Cond.methodLink own index y ∈ gtb) (hcat : Nat.ble ((st.map fun v => v.category).sum) 8 = true) (hR1 : Nat.ble (fr + 1) rm.frames = true) (hR2 : Nat.ble (8 + (maxL + 11) + lo) rm.locals = true) (hc1 : cs.1 + mc ≤ rm.cells) (hc2 : cs.2 + ms ≤ rm.slots) (d : decode cc pc = .ok (.invokespecial index, 3))
    (k : ∀ B : Nat → Nat, B 0 = x → Cb K nL A0 (cs.1 + mc, cs.2 + ms) (ws ++ F B) Q (pc + 3) lv st) : Cb K nL A0 cs (ws ++ [(x, e0)]) Q pc lv (.ref x :: st) := by
  intro H locs ls hP hD hS hl
  have hF9 := wb_free (e0 := e0) hg hx hS
  have hPc : va_P K.G.D vwCl [(x, e0)] H := fun j q hj => by
    have hk : j < 1 := (List.getElem?_eq_some_iff.mp hj).1
    have hk : j = 0 := by omega
    subst hk
    cases hj
    exact hP ws.length _ (by rw [List.getElem?_append_right (Nat.le_refl _), Nat.sub_self]; rfl)
  have hDc : va_D (fun _ => True) [(x, e0)] := ⟨fun i j p q hi hj _ => by
    have h1 : i < 1 := (List.getElem?_eq_some_iff.mp hi).1
    have h2 : j < 1 := (List.getElem?_eq_some_iff.mp hj).1
    omega, fun _ _ _ => trivial⟩
  refine va_callv (va_runI (As := []) (rest := st) ⟨hO.x, hO.b, hO.ml, hO.own, hO.ts⟩ (hM x H.size hO.ad (hg.2 x hx)) ⟨callB_of 0 hO.ts (goodIn_c hC.1) rfl rfl rfl (hO.ts _ hC.2.2.1) (hO.ts _ hlink) hC.2.2.2.2 ⟨by rw [hO.rm]; exact Nat.le_of_ble_eq_true hR1, by rw [hO.rm]; exact Nat.le_of_ble_eq_true hR2⟩, hC.2.2.2.1, hO.ts _ hC.2.1⟩ ⟨Wb_blind, fun U hU hW => ⟨rfl, by rw [hU], ?_⟩⟩ rfl rfl hl.1 rfl (lv_room (Nat.le_of_ble_eq_true hcat)) d ⟨by rw [hO.rm]; exact hc1, by rw [hO.rm]; exact hc2⟩) hS (fun q _ h => hF9 q h) hF9 (fun B t H1 locs1 ht hvm hw hB hz1 hk1 hS1 => wb_call hP hD hF9 ht hB hk1 hS1 hl (k B hw))
  obtain ⟨-, -, w3, w4, w5⟩ := Wb_of hO hg hP hD hS hU hW
  exact ⟨by rw [hU]; exact hPc, hDc, w3, w4, w5⟩
end CTOR

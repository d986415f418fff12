/-! CONTRACTS AND CALLS over Cm -/
theorem lw_goodIn {ws : List Cond} (h : ∀ w ∈ ws, w ∈ lw_tbl.filter goodWord) : GoodIn gtb ws := fun w hw => ⟨h w hw, good_of_word (List.mem_filter.mp (h w hw)).2⟩
theorem at_tbl {w : Cond} (i : Nat) (h : tables_1[i]? = some w) (hg : goodWord w = true) : w ∈ gtb := List.mem_filter.mpr ⟨List.mem_append_right _ (List.mem_of_getElem? h), hg⟩
theorem at_c1 {w : Cond} (i : Nat) (h : tables_1_1[i]? = some w) (hg : goodWord w = true) : w ∈ gtb := List.mem_filter.mpr ⟨List.mem_append_right _ (List.mem_append_left _ (List.mem_of_getElem? h)), hg⟩
theorem at_c2 {w : Cond} (i : Nat) (h : tables_1_2[i]? = some w) (hg : goodWord w = true) : w ∈ gtb := List.mem_filter.mpr ⟨List.mem_append_right _ (List.mem_append_right _ (List.mem_append_left _ (List.mem_of_getElem? h))), hg⟩
theorem at_c3 {w : Cond} (i : Nat) (h : tables_1_3[i]? = some w) (hg : goodWord w = true) : w ∈ gtb := List.mem_filter.mpr ⟨List.mem_append_right _ (List.mem_append_right _ (List.mem_append_right _ (List.mem_append_left _ (List.mem_of_getElem? h)))), hg⟩
theorem at_c4 {w : Cond} (i : Nat) (h : tables_1_4[i]? = some w) (hg : goodWord w = true) : w ∈ gtb := List.mem_filter.mpr ⟨List.mem_append_right _ (List.mem_append_right _ (List.mem_append_right _ (List.mem_append_right _ (List.mem_append_left _ (List.mem_of_getElem? h))))), hg⟩
theorem at_c5 {w : Cond} (i : Nat) (h : tables_1_5[i]? = some w) (hg : goodWord w = true) : w ∈ gtb := List.mem_filter.mpr ⟨List.mem_append_right _ (List.mem_append_right _ (List.mem_append_right _ (List.mem_append_right _ (List.mem_append_right _ (List.mem_append_left _ (List.mem_of_getElem? h)))))), hg⟩
theorem at_c6 {w : Cond} (i : Nat) (h : tables_1_6[i]? = some w) (hg : goodWord w = true) : w ∈ gtb := List.mem_filter.mpr ⟨List.mem_append_right _ (List.mem_append_right _ (List.mem_append_right _ (List.mem_append_right _ (List.mem_append_right _ (List.mem_append_right _ (List.mem_append_left _ (List.mem_of_getElem? h))))))), hg⟩
theorem at_c7 {w : Cond} (i : Nat) (h : tables_1_7[i]? = some w) (hg : goodWord w = true) : w ∈ gtb := List.mem_filter.mpr ⟨List.mem_append_right _ (List.mem_append_right _ (List.mem_append_right _ (List.mem_append_right _ (List.mem_append_right _ (List.mem_append_right _ (List.mem_append_right _ (List.mem_of_getElem? h))))))), hg⟩
theorem at_sel {w : Cond} (i : Nat) (h : (k2_sels lw_privs)[i]? = some w) (hg : goodWord w = true) : w ∈ gtb := List.mem_filter.mpr ⟨List.mem_append_left _ (List.mem_of_getElem? h), hg⟩
def Qo (ret : Option FieldType) (G : Gh) (out : Int32 × Wd) : Array Value → State → Outcome → State → Prop := match ret with
  | none => va_Qv (fun u : Wd => u = out.2) (Wl G) (zA G)
  | some _ => va_Qi (fun (r : Int32) (u : Wd) => r = out.1 ∧ u = out.2) (Wl G) (zA G)
def Con (l : Launch) (G : Gh) (y : MethodName) (cc : ByteArray) (nL : Nat) (ret : Option FieldType) (fr lo : Nat) (vs : List Value) (σ : Wd) (f : Option (Int32 × Wd)) : Prop :=
  ∀ out, f = some out → Met l y (.code y cc nL ret :: gtb) { frames := fr, cells := 0, slots := 0, locals := lo } (va_Pc vs (Wl G σ)) (Qo ret G out) 0 0 (zA G)
def Rt (K : Kt) (ret : Option FieldType) : Prop := K.meth.sig.returnType = ret ∧ K.Z = fun out => MQ K.below (Qo ret K.G out) K.args K.s 0 0 (zA K.G)
section CALLS
variable {K : Kt} {nL : Nat} {cs : Nat × Nat} {e : Option (Int32 × Wd)} {σ : Wd} {pc : Nat} {lv : List (Nat × Value)} {st : List Value} {cc : ByteArray} {own : String} {rm : Room}
theorem Wl_of {H : Heap} {locs : List Loc} {t : State} (hO : Ok K cc own nL rm) (hP : va_P K.G.D vwCl (wsOf K.G σ) H) (hS : va_S (zA K.G) K.s.heap H locs) (ht : t.heap = H) (hW : K.s.WarmedH t.vm) : Wl K.G σ t := by
  refine ⟨by rw [ht]; exact Nat.le_trans hO.z hS.1, by rw [ht]; exact hP, va_K.moved hW.alike hO.k, hO.ad, ?_⟩
  rw [ht]
  exact (hO.tx.kept (fun a h1 h2 => hS.2.1 a h1 h2)).moved hW
theorem Wl_blind {G : Gh} {vs : List Value} : FrameBlind (va_Pc vs (Wl G σ)) := by
  intro a U g mk q
  obtain ⟨q0, q1, qP, qK, qA, qT⟩ := q
  exact ⟨q0, q1, qP, va_K.moved (u := U) (U := U.calling g mk a) (Vm.Alike.refl U.vm) qK, qA, qT.same rfl⟩
theorem r_iret {v : Int32} (hO : Ok K cc own nL rm) (hR : Rt K (some .int)) (d : decode cc pc = .ok (.ireturn, 1)) : Cm K nL (0, 0) (some (v, σ)) σ pc lv [.int v] := by
  intro out he H locs ls hP hS hl
  cases he
  rw [hR.2]
  exact W.iret (v := v) hO.x hO.b hR.1 (fun t ht hW => ⟨⟨v, σ, rfl, ⟨rfl, rfl⟩, Wl_of hO hP hS ht hW⟩, hS.F ht⟩) hS.2.2 d (hlocks := hO.lk)
theorem r_nret {v : Int32} {ty : FieldType} (hO : Ok K cc own nL rm) (hR : Rt K (some ty)) (hn : narrow ty (.int v) = .int v) (d : decode cc pc = .ok (.ireturn, 1)) : Cm K nL (0, 0) (some (v, σ)) σ pc lv [.int v] := by
  intro out he H locs ls hP hS hl
  cases he
  rw [hR.2]
  exact W.zret (v := v) hO.x hO.b hR.1 hn (fun t ht hW => ⟨⟨v, σ, rfl, ⟨rfl, rfl⟩, Wl_of hO hP hS ht hW⟩, hS.F ht⟩) hS.2.2 d (hlocks := hO.lk)
theorem nar_b {x : Int32} (hb : isb x = true) : narrow .boolean (.int x) = .int x := by
  unfold isb at hb
  rw [Bool.or_eq_true] at hb
  rcases hb with hb | hb
  · rw [of_decide_eq_true hb]; rfl
  · rw [of_decide_eq_true hb]; rfl
theorem r_zret {v : Int32} (hO : Ok K cc own nL rm) (hR : Rt K (some .boolean)) (d : decode cc pc = .ok (.ireturn, 1)) : Cm K nL (0, 0) (gd (isb v) (some (v, σ))) σ pc lv [.int v] := r_gd fun hb => r_nret hO hR (nar_b hb) d
theorem r_vret (hO : Ok K cc own nL rm) (hR : Rt K none) (d : decode cc pc = .ok (.return_, 1)) : Cm K nL (0, 0) (some (0, σ)) σ pc lv [] := by
  intro out he H locs ls hP hS hl
  cases he
  rw [hR.2]
  exact W.vret hO.x hO.b hR.1 (fun t ht hW => ⟨⟨σ, rfl, rfl, Wl_of hO hP hS ht hW⟩, hS.F ht⟩) hS.2.2 d (hlocks := hO.lk)
theorem Con.of {l : Launch} {G : Gh} {y : MethodName} {ret : Option FieldType} {fr lo : Nat} {vs : List Value} {f : Option (Int32 × Wd)} (hy : plainFor y = true) (hown : y.cls = own) (hlen : (lg_sl vs).length ≤ nL)
    (h : ∀ K : Kt, K.l = l → K.G = G → Ok K cc own nL { frames := fr, cells := 0, slots := 0, locals := lo } → Rt K ret → Cm K nL (0, 0) f σ 0 (lv_args 0 vs) []) : Con l G y cc nL ret fr lo vs σ f := by
  intro out hf
  refine va_MetF (cc := cc) (maxL := nL) (ret := ret) hy rfl ?_
  intro p e s m args below meth c s₁ B hml hv
  obtain ⟨rfl, hz, hP, hK, hA, hT⟩ := hv
  have hts := atoms_spec (ws := .code y cc nL ret :: gtb) B.pre
  have hl := lv_entry vs (n := nL) hlen
  rw [lg_entry_eq]
  exact h ((p, l, e, { frames := fr, cells := 0, slots := 0, locals := lo }, s), (m, vs.toArray, below, meth, c), (G, fun out => MQ below (Qo ret G out) vs.toArray s 0 0 (zA G))) rfl rfl
    ⟨B.exec, B.bytes, hml, by rw [← hown]; exact findClass_of_methodNamed B.named, fun w hw => hts w (List.mem_cons_of_mem _ hw), hK, hA, B.notSynchronized, hT, hz, rfl⟩ ⟨B.returns, rfl⟩ out hf s.heap [] _ hP va_S.rf hl
def CalV (y : MethodName) (bytes : ByteArray) (maxL : Nat) (ret : Option FieldType) (n : Nat) : Prop := Cond.code y bytes maxL ret ∈ gtb ∧ Cond.instanceMethod y ∈ gtb ∧ Cond.selects y.cls y y ∈ gtb ∧ Cond.initialized y.cls ∈ gtb ∧ y.cls ≠ "java/lang/invoke/MethodHandle" ∧ y.cls ≠ "java/lang/invoke/VarHandle" ∧ (parseMethodDescriptor y.desc).map (fun d => d.parameters.length) = some n
def CalS (y : MethodName) (bytes : ByteArray) (maxL : Nat) (ret : Option FieldType) (n : Nat) : Prop := Cond.code y bytes maxL ret ∈ gtb ∧ Cond.static y ∈ gtb ∧ Cond.initialized y.cls ∈ gtb ∧ y.cls ≠ "java/lang/invoke/MethodHandle" ∧ y.cls ≠ "java/lang/invoke/VarHandle" ∧ (parseMethodDescriptor y.desc).map (fun d => d.parameters.length) = some n
variable {y : MethodName} {bytes : ByteArray} {maxL n fr lo index : Nat} {As : List Value} {f : Option (Int32 × Wd)} {g : Int32 → Wd → Option (Int32 × Wd)} {stk : List Value}
theorem goodIn_c {ret : Option FieldType} (h : Cond.code y bytes maxL ret ∈ gtb) : GoodIn gtb (.code y bytes maxL ret :: gtb) := lw_goodIn fun w hw => by
  rcases List.mem_cons.mp hw with e | e
  · rw [e]; exact h
  · exact e
abbrev RoomOk (rm : Room) (cs : Nat × Nat) (fr lo maxL : Nat) : Prop := Nat.ble (fr + 1) rm.frames = true ∧ Nat.ble (8 + (maxL + 11) + lo) rm.locals = true ∧ cs.1 ≤ rm.cells ∧ cs.2 ≤ rm.slots
theorem call_cb {ret : Option FieldType} (hO : Ok K cc own nL rm) (hcode : Cond.code y bytes maxL ret ∈ gtb) (hini : Cond.initialized y.cls ∈ gtb) (hlink : Cond.methodLink own index y ∈ gtb) (hd : y.cls ≠ "java/lang/invoke/MethodHandle" ∧ y.cls ≠ "java/lang/invoke/VarHandle" ∧ (parseMethodDescriptor y.desc).map (fun d => d.parameters.length) = some n) (hR : RoomOk rm cs fr lo maxL) :
    CallB K.R K.s K.args own index y bytes maxL ret (.code y bytes maxL ret :: gtb) { frames := fr, cells := 0, slots := 0, locals := lo } 0 0 n :=
  callB_of n hO.ts (goodIn_c hcode) rfl rfl rfl (hO.ts _ hini) (hO.ts _ hlink) hd ⟨by rw [hO.rm]; exact Nat.le_of_ble_eq_true hR.1, by rw [hO.rm]; exact Nat.le_of_ble_eq_true hR.2.1⟩
theorem r_cVi {rt : FieldType} {k ci N : Nat} {T : u_T} {fs : List Value} (hO : Ok K cc own nL rm) (hM : Con K.l K.G y bytes maxL (some rt) fr lo (.ref (K.G.A k) :: As) σ f) (hC : CalV y bytes maxL (some rt) n) (hlink : Cond.methodLink own index y ∈ gtb) (hc : vwCl[ci]? = some (y.cls, T, N)) (hk : k < 121) (hen : entW K.G σ k = .inr (ci, fs)) (hn : As.length = n) (hst : stk = As.reverse ++ .ref (K.G.A k) :: st) (hcat : Nat.ble ((st.map fun v => v.category).sum) 8 = true) (hR : RoomOk rm cs fr lo maxL) (d : decode cc pc = .ok (.invokevirtual index, 3))
    (kk : ∀ (r : Int32) (σ' : Wd), Cm K nL cs (g r σ') σ' (pc + 3) lv (.int r :: st)) : Cm K nL cs (bd f g) σ pc lv stk := by
  intro out he H locs ls hP hS hl
  subst hst
  cases hf : f with
  | none => rw [hf] at he; cases he
  | some o =>
    obtain ⟨r0, σ0⟩ := o
    rw [hf] at he
    refine va_calli (va_runV (As := As) (rest := st) ⟨hO.x, hO.b, hO.ml, hO.own, hO.ts⟩ (hM _ hf) ⟨call_cb hO hC.1 hC.2.2.2.1 hlink hC.2.2.2.2 hR, hO.ts _ hC.2.1, hO.ts _ hC.2.2.1⟩ ⟨Wl_blind, va_recv hO.k hP hc (at_O hk hen), fun U hU hW => ⟨rfl, Wl_of hO hP hS hU hW⟩⟩ rfl hn hl.1 rfl (lv_room (Nat.le_of_ble_eq_true hcat)) d ⟨by rw [hO.rm]; exact hR.2.2.1, by rw [hO.rm]; exact hR.2.2.2⟩) hS (fun q _ h => h) (fun q h => h) (fun r u t H1 locs1 ht hvm hw hB hz1 hk1 hS1 => ?_)
    obtain ⟨rfl, rfl⟩ := hw
    exact kk r u out he H1 locs1 ls (by rw [← ht]; exact hB.2.1) hS1 hl
theorem r_cVv {k ci N : Nat} {T : u_T} {fs : List Value} (hO : Ok K cc own nL rm) (hM : Con K.l K.G y bytes maxL none fr lo (.ref (K.G.A k) :: As) σ f) (hC : CalV y bytes maxL none n) (hlink : Cond.methodLink own index y ∈ gtb) (hc : vwCl[ci]? = some (y.cls, T, N)) (hk : k < 121) (hen : entW K.G σ k = .inr (ci, fs)) (hn : As.length = n) (hst : stk = As.reverse ++ .ref (K.G.A k) :: st) (hcat : Nat.ble ((st.map fun v => v.category).sum) 8 = true) (hR : RoomOk rm cs fr lo maxL) (d : decode cc pc = .ok (.invokevirtual index, 3))
    (kk : ∀ (r : Int32) (σ' : Wd), Cm K nL cs (g r σ') σ' (pc + 3) lv st) : Cm K nL cs (bd f g) σ pc lv stk := by
  intro out he H locs ls hP hS hl
  subst hst
  cases hf : f with
  | none => rw [hf] at he; cases he
  | some o =>
    obtain ⟨r0, σ0⟩ := o
    rw [hf] at he
    refine va_callv (va_runV (As := As) (rest := st) ⟨hO.x, hO.b, hO.ml, hO.own, hO.ts⟩ (hM _ hf) ⟨call_cb hO hC.1 hC.2.2.2.1 hlink hC.2.2.2.2 hR, hO.ts _ hC.2.1, hO.ts _ hC.2.2.1⟩ ⟨Wl_blind, va_recv hO.k hP hc (at_O hk hen), fun U hU hW => ⟨rfl, Wl_of hO hP hS hU hW⟩⟩ rfl hn hl.1 rfl (lv_room (Nat.le_of_ble_eq_true hcat)) d ⟨by rw [hO.rm]; exact hR.2.2.1, by rw [hO.rm]; exact hR.2.2.2⟩) hS (fun q _ h => h) (fun q h => h) (fun u t H1 locs1 ht hvm hw hB hz1 hk1 hS1 => ?_)
    subst hw
    exact kk r0 _ out he H1 locs1 ls (by rw [← ht]; exact hB.2.1) hS1 hl
/-- a text's own method -/
theorem r_cTi {rt : FieldType} {i : Nat} (hO : Ok K cc own nL rm) (hM : Con K.l K.G y bytes maxL (some rt) fr lo (.ref (K.G.aK i) :: As) σ f) (hC : CalV y bytes maxL (some rt) n) (hlink : Cond.methodLink own index y ∈ gtb) (hc : y.cls = "java/lang/String") (hi : Nat.blt i 13 = true) (hn : As.length = n) (hst : stk = As.reverse ++ .ref (K.G.aK i) :: st) (hcat : Nat.ble ((st.map fun v => v.category).sum) 8 = true) (hR : RoomOk rm cs fr lo maxL) (d : decode cc pc = .ok (.invokevirtual index, 3))
    (kk : ∀ (r : Int32) (σ' : Wd), Cm K nL cs (g r σ') σ' (pc + 3) lv (.int r :: st)) : Cm K nL cs (bd f g) σ pc lv stk := by
  intro out he H locs ls hP hS hl
  subst hst
  cases hf : f with
  | none => rw [hf] at he; cases he
  | some o =>
    obtain ⟨r0, σ0⟩ := o
    rw [hf] at he
    refine va_calli (va_runV (As := As) (rest := st) ⟨hO.x, hO.b, hO.ml, hO.own, hO.ts⟩ (hM _ hf) ⟨call_cb hO hC.1 hC.2.2.2.1 hlink hC.2.2.2.2 hR, hO.ts _ hC.2.1, hO.ts _ hC.2.2.1⟩ ⟨Wl_blind, by rw [hc]; exact vS_recv hO.tx.1 (Nat.le_of_ble_eq_true hi) hS, fun U hU hW => ⟨rfl, Wl_of hO hP hS hU hW⟩⟩ rfl hn hl.1 rfl (lv_room (Nat.le_of_ble_eq_true hcat)) d ⟨by rw [hO.rm]; exact hR.2.2.1, by rw [hO.rm]; exact hR.2.2.2⟩) hS (fun q _ h => h) (fun q h => h) (fun r u t H1 locs1 ht hvm hw hB hz1 hk1 hS1 => ?_)
    obtain ⟨rfl, rfl⟩ := hw
    exact kk r u out he H1 locs1 ls (by rw [← ht]; exact hB.2.1) hS1 hl
theorem r_cTp {rt : FieldType} {i : Nat} {r0 : Int32} (hO : Ok K cc own nL rm) (hM : Con K.l K.G y bytes maxL (some rt) fr lo (.ref (K.G.aK i) :: As) σ f) (hC : CalV y bytes maxL (some rt) n) (hlink : Cond.methodLink own index y ∈ gtb) (hc : y.cls = "java/lang/String") (hi : Nat.blt i 13 = true) (hn : As.length = n) (hst : stk = As.reverse ++ .ref (K.G.aK i) :: st) (hcat : Nat.ble ((st.map fun v => v.category).sum) 8 = true) (hR : RoomOk rm cs fr lo maxL) (d : decode cc pc = .ok (.invokevirtual index, 3))
    (hf : f = some (r0, σ)) (kk : Cm K nL cs e σ (pc + 3) lv (.int r0 :: st)) : Cm K nL cs e σ pc lv stk := by
  intro out he H locs ls hP hS hl
  subst hst
  refine va_calli (va_runV (As := As) (rest := st) ⟨hO.x, hO.b, hO.ml, hO.own, hO.ts⟩ (hM _ hf) ⟨call_cb hO hC.1 hC.2.2.2.1 hlink hC.2.2.2.2 hR, hO.ts _ hC.2.1, hO.ts _ hC.2.2.1⟩ ⟨Wl_blind, by rw [hc]; exact vS_recv hO.tx.1 (Nat.le_of_ble_eq_true hi) hS, fun U hU hW => ⟨rfl, Wl_of hO hP hS hU hW⟩⟩ rfl hn hl.1 rfl (lv_room (Nat.le_of_ble_eq_true hcat)) d ⟨by rw [hO.rm]; exact hR.2.2.1, by rw [hO.rm]; exact hR.2.2.2⟩) hS (fun q _ h => h) (fun q h => h) (fun r u t H1 locs1 ht hvm hw hB hz1 hk1 hS1 => ?_)
  obtain ⟨rfl, rfl⟩ := hw
  exact kk out he H1 locs1 ls (by rw [← ht]; exact hB.2.1) hS1 hl
theorem r_cSi {rt : FieldType} (hO : Ok K cc own nL rm) (hM : Con K.l K.G y bytes maxL (some rt) fr lo As σ f) (hC : CalS y bytes maxL (some rt) n) (hlink : Cond.methodLink own index y ∈ gtb) (hn : As.length = n) (hst : stk = As.reverse ++ st) (hcat : Nat.ble ((st.map fun v => v.category).sum) 8 = true) (hR : RoomOk rm cs fr lo maxL) (d : decode cc pc = .ok (.invokestatic index, 3))
    (kk : ∀ (r : Int32) (σ' : Wd), Cm K nL cs (g r σ') σ' (pc + 3) lv (.int r :: st)) : Cm K nL cs (bd f g) σ pc lv stk := by
  intro out he H locs ls hP hS hl
  subst hst
  cases hf : f with
  | none => rw [hf] at he; cases he
  | some o =>
    obtain ⟨r0, σ0⟩ := o
    rw [hf] at he
    refine va_calli (va_runS (As := As) (rest := st) ⟨hO.x, hO.b, hO.ml, hO.own, hO.ts⟩ (hM _ hf) ⟨call_cb hO hC.1 hC.2.2.1 hlink hC.2.2.2 hR, hO.ts _ hC.2.1⟩ ⟨Wl_blind, fun U hU hW => ⟨rfl, Wl_of hO hP hS hU hW⟩⟩ rfl hn hl.1 rfl (lv_room (Nat.le_of_ble_eq_true hcat)) d ⟨by rw [hO.rm]; exact hR.2.2.1, by rw [hO.rm]; exact hR.2.2.2⟩) hS (fun q _ h => h) (fun q h => h) (fun r u t H1 locs1 ht hvm hw hB hz1 hk1 hS1 => ?_)
    obtain ⟨rfl, rfl⟩ := hw
    exact kk r u out he H1 locs1 ls (by rw [← ht]; exact hB.2.1) hS1 hl
theorem r_cSv (hO : Ok K cc own nL rm) (hM : Con K.l K.G y bytes maxL none fr lo As σ f) (hC : CalS y bytes maxL none n) (hlink : Cond.methodLink own index y ∈ gtb) (hn : As.length = n) (hst : stk = As.reverse ++ st) (hcat : Nat.ble ((st.map fun v => v.category).sum) 8 = true) (hR : RoomOk rm cs fr lo maxL) (d : decode cc pc = .ok (.invokestatic index, 3))
    (kk : ∀ (r : Int32) (σ' : Wd), Cm K nL cs (g r σ') σ' (pc + 3) lv st) : Cm K nL cs (bd f g) σ pc lv stk := by
  intro out he H locs ls hP hS hl
  subst hst
  cases hf : f with
  | none => rw [hf] at he; cases he
  | some o =>
    obtain ⟨r0, σ0⟩ := o
    rw [hf] at he
    refine va_callv (va_runS (As := As) (rest := st) ⟨hO.x, hO.b, hO.ml, hO.own, hO.ts⟩ (hM _ hf) ⟨call_cb hO hC.1 hC.2.2.1 hlink hC.2.2.2 hR, hO.ts _ hC.2.1⟩ ⟨Wl_blind, fun U hU hW => ⟨rfl, Wl_of hO hP hS hU hW⟩⟩ rfl hn hl.1 rfl (lv_room (Nat.le_of_ble_eq_true hcat)) d ⟨by rw [hO.rm]; exact hR.2.2.1, by rw [hO.rm]; exact hR.2.2.2⟩) hS (fun q _ h => h) (fun q h => h) (fun u t H1 locs1 ht hvm hw hB hz1 hk1 hS1 => ?_)
    subst hw
    exact kk r0 _ out he H1 locs1 ls (by rw [← ht]; exact hB.2.1) hS1 hl
/-- a static method of a nest mate -/
theorem r_cSNi {rt : FieldType} {host : String} (hO : Ok K cc own nL rm) (hM : Con K.l K.G y bytes maxL (some rt) fr lo As σ f) (hC : CalS y bytes maxL (some rt) n) (hlink : (own, index, y, host) ∈ nsL) (hn : As.length = n) (hst : stk = As.reverse ++ st) (hcat : Nat.ble ((st.map fun v => v.category).sum) 8 = true) (hR : RoomOk rm cs fr lo maxL) (d : decode cc pc = .ok (.invokestatic index, 3))
    (kk : ∀ (r : Int32) (σ' : Wd), Cm K nL cs (g r σ') σ' (pc + 3) lv (.int r :: st)) : Cm K nL cs (bd f g) σ pc lv stk := by
  intro out he H locs ls hP hS hl
  subst hst
  cases hf : f with
  | none => rw [hf] at he; cases he
  | some o =>
    obtain ⟨r0, σ0⟩ := o
    rw [hf] at he
    have hnl := hO.tx.2.2.2.1 (own, index, y, host) hlink
    refine va_calli (va_runSN (As := As) (rest := st) ⟨hO.x, hO.b, hO.ml, hO.own, hO.ts⟩ (hM _ hf) ⟨va_cnB n hO.ts (goodIn_c hC.1) rfl rfl rfl hnl (hO.ts _ hC.2.2.1) hC.2.2.2 ⟨by rw [hO.rm]; exact Nat.le_of_ble_eq_true hR.1, by rw [hO.rm]; exact Nat.le_of_ble_eq_true hR.2.1⟩, hO.ts _ hC.2.1, trivial⟩ ⟨Wl_blind, fun U hU hW => ⟨rfl, Wl_of hO hP hS hU hW⟩⟩ rfl hn hl.1 rfl (lv_room (Nat.le_of_ble_eq_true hcat)) d ⟨by rw [hO.rm]; exact hR.2.2.1, by rw [hO.rm]; exact hR.2.2.2⟩) hS (fun q _ h => h) (fun q h => h) (fun r u t H1 locs1 ht hvm hw hB hz1 hk1 hS1 => ?_)
    obtain ⟨rfl, rfl⟩ := hw
    exact kk r u out he H1 locs1 ls (by rw [← ht]; exact hB.2.1) hS1 hl
end CALLS

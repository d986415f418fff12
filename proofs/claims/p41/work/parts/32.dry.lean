/-! dry: it answers, or throws NoSuchElementException; the law's own dry catches it -/
abbrev xN : String := "java/util/NoSuchElementException"
abbrev xNm : List String := ["java/lang/RuntimeException", "java/lang/Exception"]
abbrev xD1 : MethodName := ⟨"java/lang/RuntimeException", "<init>", "()V"⟩
abbrev xD2 : MethodName := ⟨"java/lang/Exception", "<init>", "()V"⟩
abbrev xD3 : MethodName := ⟨"java/lang/Throwable", "<init>", "()V"⟩
def xbL : List Cond := [.castable xN xN, .declares xD1, .declares xD2, .declares xD3]
theorem xb_ok : ∀ w ∈ (vx_at0 RX6 296 xN xNm).filter (fun w => !goodWord w), w ∈ xbL := by decide +kernel
theorem xg_ok : ∀ w ∈ (vx_at0 RX6 296 xN xNm).filter goodWord, w ∈ gtb := by
  have h : ∀ w ∈ (vx_at0 RX6 296 xN xNm).filter goodWord, w ∈ (tables_1_4.drop 188).take 52 ++ ((tables_1_5.drop 0).take 20 ++ ((tables_1_1.drop 15).take 222 ++ ((tables_1_7.drop 130).take 11))) := by decide +kernel
  intro w hw
  have hg := (List.mem_filter.mp hw).2
  have h := h w hw
  rcases List.mem_append.mp h with h | h
  · obtain ⟨i, hi⟩ := List.getElem?_of_mem (List.mem_of_mem_drop (List.mem_of_mem_take h)); exact at_c4 i hi hg
  rcases List.mem_append.mp h with h | h
  · obtain ⟨i, hi⟩ := List.getElem?_of_mem (List.mem_of_mem_drop (List.mem_of_mem_take h)); exact at_c5 i hi hg
  rcases List.mem_append.mp h with h | h
  · obtain ⟨i, hi⟩ := List.getElem?_of_mem (List.mem_of_mem_drop (List.mem_of_mem_take h)); exact at_c1 i hi hg
  · obtain ⟨i, hi⟩ := List.getElem?_of_mem (List.mem_of_mem_drop (List.mem_of_mem_take h)); exact at_c7 i hi hg
theorem xo_ok : ∀ w ∈ Cond.classLink RX6 294 xN :: Cond.initialized xN :: vx_at0 RX6 296 xN xNm, vx_ot w = true := by decide +kernel
/-- what a throw stands on, besides the tables -/
def Xk (G : Gh) (U : State) (H : Heap) : Prop := (va_Nw (.castable xN xN) U ∧ va_Nw (.declares xD1) U ∧ va_Nw (.declares xD2) U ∧ va_Nw (.declares xD3) U) ∧ vx_Zq Bundle.tN "UNASSIGNED_STACK" Bundle.steD (zA G) U H ∧ vx_Zq Bundle.tN "SUPPRESSED_SENTINEL" Bundle.listD (zA G) U H
theorem Xk.moved {G : Gh} {u U : State} {H : Heap} (hW : u.WarmedH U.vm) (h : Xk G u H) : Xk G U H := ⟨⟨h.1.1.warmC hW, h.1.2.1.warmD hW, h.1.2.2.1.warmD hW, h.1.2.2.2.warmD hW⟩, vx_Zq.moved hW.alike h.2.1, vx_Zq.moved hW.alike h.2.2⟩
theorem Xk.kept {G : Gh} {U : State} {H H1 : Heap} (h : Xk G U H) (hq : ∀ a : Nat, a < H.size → ¬ zA G a → H1[a]? = H[a]?) : Xk G U H1 := ⟨h.1, h.2.1.kept hq, h.2.2.kept hq⟩
theorem Xk.same {G : Gh} {u U : State} {H : Heap} (hv : U.vm = u.vm) (h : Xk G u H) : Xk G U H := by
  have ha : u.vm.Alike U.vm := by rw [hv]; exact Vm.Alike.refl u.vm
  exact ⟨⟨va_Nw.same rfl hv.symm h.1.1, va_Nw.same rfl hv.symm h.1.2.1, va_Nw.same rfl hv.symm h.1.2.2.1, va_Nw.same rfl hv.symm h.1.2.2.2⟩, vx_Zq.moved ha h.2.1, vx_Zq.moved ha h.2.2⟩
def Qx (G : Gh) (out : Int32 × Wd) : Array Value → State → Outcome → State → Prop := va_Qi (fun (r : Int32) (u : Wd) => r = out.1 ∧ u = out.2 ∧ ¬ out.1 = -1) (Wl G) (zA G)
def Xx (G : Gh) (out : Int32 × Wd) : String → State → State → Prop := vx_X (fun u : Wd => u = out.2 ∧ out.1 = -1) (fun E u t => E = xN ∧ va_P G.D vwCl (wsOf G u) t.heap) (zA G)
def Rx (K : Kt) : Prop := K.meth.sig.returnType = some .int ∧ (K.Z = fun out => vx_MQ K.below (Qx K.G out) (Xx K.G out) K.args K.s 1 6 (zA K.G)) ∧ (∀ x ∈ K.c.exceptionTable.toList, False) ∧ K.l.stackTraces = false ∧ Xk K.G K.s K.s.heap
section DRY
variable {K : Kt} {nL : Nat} {σ : Wd} {pc : Nat} {lv : List (Nat × Value)} {cc : ByteArray} {rm : Room}
theorem rx_ret {v : Int32} {own : String} (hO : Ok K cc own nL rm) (hR : Rx K) (d : decode cc pc = .ok (.ireturn, 1)) : Cm K nL (0, 0) (gd (!decide (v = -1)) (some (v, σ))) σ pc lv [.int v] := by
  refine r_gd fun hv => ?_
  intro out he H locs ls hP hS hl
  cases he
  rw [hR.2.1]
  have hv : ¬ v = -1 := by simpa using hv
  refine vx_ret (W.widen (k := 1) (n := 6) (Nat.zero_le _) (Nat.zero_le _) ?_)
  exact W.iret (v := v) hO.x hO.b hR.1 (fun t ht hW => ⟨⟨v, σ, rfl, ⟨rfl, rfl, hv⟩, Wl_of hO hP hS ht hW⟩, hS.F ht⟩) hS.2.2 d (hlocks := hO.lk)
theorem rx_throw (hO : Ok K cc RX6 nL rm) (hR : Rx K) (hk : Cond.classLink RX6 294 xN ∈ gtb) (hini : Cond.initialized xN ∈ gtb) (hfr : Nat.ble 6 rm.frames = true) (hlo : Nat.ble 81 rm.locals = true) (hc : rm.cells = 1) (hs : rm.slots = 6) (d0 : decode cc pc = .ok (.new 294, 3)) (d3 : decode cc (pc + 3) = .ok (.dup, 1)) (d4 : decode cc (pc + 4) = .ok (.invokespecial 296, 3)) (d7 : decode cc (pc + 7) = .ok (.athrow, 1)) : Cm K nL (0, 0) (some (-1, σ)) σ pc lv [] := by
  intro out he H locs ls hP hS hl
  cases he
  rw [hR.2.1]
  refine vx_throw0 hO.x hO.b hR.2.2.2.1 (own := RX6) (cls := xN) (names := xNm) (ik := 294) (ic := 296) (A := zA K.G) hO.own (by decide +kernel) (by decide +kernel) (hO.ts _ hk) (hO.ts _ hini) (vx_hat (B := xbL) (fun w hw => hO.ts w (xg_ok w hw)) xb_ok (vx_c (va_Nw.use rfl hR.2.2.2.2.1.1) (vx_c (va_Nw.use rfl hR.2.2.2.2.1.2.1) (vx_c (va_Nw.use rfl hR.2.2.2.2.1.2.2.1) (vx_c (va_Nw.use rfl hR.2.2.2.2.1.2.2.2) vx_n))))) xo_ok hR.2.2.2.2.2.1 hR.2.2.2.2.2.2 hS (by rw [hO.ml]; exact hl.1) d0 d3 d4 d7 (fun x hx => (hR.2.2.1 x hx).elim) (by rw [hO.rm]; exact Nat.lt_of_lt_of_le (by decide) (Nat.le_of_ble_eq_true hfr)) (by rw [hO.rm]; exact Nat.le_trans (by decide) (Nat.le_of_ble_eq_true hlo)) (by rw [hO.rm, hc]; exact Nat.le_refl _) (by rw [hO.rm, hs]; exact Nat.le_refl _) hO.lk (fun t hal hz hq => ?_) hS.2.2 (Nat.le_refl _) (Nat.le_refl _)
  refine ⟨σ, ⟨rfl, rfl⟩, ⟨rfl, hP.kept (fun k q hk => hq q.1 (hP k q hk).lt)⟩, Nat.le_trans hS.1 hz, fun q h1 h2 => ?_⟩
  rw [hq q (Nat.lt_of_lt_of_le h1 hS.1)]
  exact hS.2.1 q h1 h2
end DRY
abbrev rm_X6_dry : Room := { frames := 6, cells := 1, slots := 6, locals := 90 }
def f_X6_dry_45  (k4 : Int32 → Int32 → Int32 → Wd → Option (Int32 × Wd)) (x1 : Int32) (x2 : Int32) (x3 : Int32) (σ : Wd) : Option (Int32 × Wd) := (k4 x1 x2 (x3 + (1 : Int32)) σ)
def f_X6_dry_4   : Nat → Int32 → Int32 → Int32 → Wd → Option (Int32 × Wd)
  | 0 => fun _ _ _ _ => none
  | n + 1 => fun x1 x2 x3 σ => gd (bM (σ.2.2 0 4)) (if (σ.1 (σ.2.2 0 4) 3) ≤ x3 then (some (-1, σ)) else (gd (bM (σ.2.2 0 4)) (bd (f_X3_depthOf (σ.2.2 0 4) x3 σ) fun r3 σ4 => gd (bM (σ4.2.2 0 4)) (gd (inb x3 5) (if (σ4.1 ((σ4.2.2 0 4) + 2) (ix x3)) ≤ r3 then (f_X6_dry_45 (f_X6_dry_4 n) x1 x2 x3 σ4) else (if x2 = x1 then (gd (!decide (x3 = -1)) (some (x3, σ4))) else (f_X6_dry_45 (f_X6_dry_4 n) x1 (x2 + (1 : Int32)) x3 σ4)))))))
def f_X6_dry (a1 : Int32) (σ : Wd) : Option (Int32 × Wd) := (f_X6_dry_4 FU a1 (0 : Int32) (0 : Int32) σ)
set_option maxRecDepth 20000 in
set_option maxHeartbeats 1000000 in
theorem b_X6_dry_45 {K : Kt}  {k4 : Int32 → Int32 → Int32 → Wd → Option (Int32 × Wd)} (hO : Ok K cX6_dry RX6 4 rm_X6_dry) (hR : Rx K)   (hk4 : ∀ (x1 : Int32) (x2 : Int32) (x3 : Int32) (σ : Wd), Cm K 4 (0, 0) (k4 x1 x2 x3 σ) σ 4 [(0, .ref (K.G.A 0)), (1, .int x1), (2, .int x2), (3, .int x3)] []) (x1 : Int32) (x2 : Int32) (x3 : Int32) (σ : Wd)  : Cm K 4 (0, 0) (f_X6_dry_45 k4 x1 x2 x3 σ) σ 45 [(0, .ref (K.G.A 0)), (1, .int x1), (2, .int x2), (3, .int x3)] [] := by
  refine r_iinc hO rfl ci_1 rfl rfl dX6_dry_45 ?_
  refine r_goto (tgt := 4) hO dX6_dry_48 (by decide) ?_
  exact r_jmp (hk4 x1 x2 (x3 + (1 : Int32)) σ) (lsub_c rfl (lsub_c rfl (lsub_c rfl (lsub_c rfl lsub_n))))
set_option maxRecDepth 20000 in
set_option maxHeartbeats 1000000 in
theorem b_X6_dry_4 {K : Kt}   (hO : Ok K cX6_dry RX6 4 rm_X6_dry) (hR : Rx K)   : ∀ (n : Nat) (x1 : Int32) (x2 : Int32) (x3 : Int32) (σ : Wd) , Cm K 4 (0, 0) (f_X6_dry_4  n x1 x2 x3 σ) σ 4 [(0, .ref (K.G.A 0)), (1, .int x1), (2, .int x2), (3, .int x3)] [] := by
  intro n
  induction n with
  | zero => intro x1 x2 x3 σ ; exact r_none
  | succ n ih =>
    intro x1 x2 x3 σ 
    refine r_iload_n (i := 3) hO rfl rfl dX6_dry_4 ?_
    refine r_aload_n (i := 0) hO rfl rfl dX6_dry_5 ?_
    refine r_gd fun h1 => ?_
    refine gX6_39 hO dX6_dry_6 ?_
    refine gX6_92 hO (bM_is h1) dX6_dry_9 ?_
    refine r_icmp_ge (tgt := 51) hO dX6_dry_12 (by decide) ?_ ?_
    · exact rx_throw hO hR a_1051 a_1052 rfl rfl rfl rfl dX6_dry_51 dX6_dry_54 dX6_dry_55 dX6_dry_58
    · refine r_aload_n (i := 0) hO rfl rfl dX6_dry_15 ?_
      refine r_gd fun h2 => ?_
      refine gX6_39 hO dX6_dry_16 ?_
      refine r_iload_n (i := 3) hO rfl rfl dX6_dry_19 ?_
      refine k_X3_depthOf hO (bM_is h2) a_326 rfl ⟨rfl, rfl, Nat.zero_le _, Nat.zero_le _⟩ dX6_dry_20 ?_
      intro r3 σ4
      refine r_aload_n (i := 0) hO rfl rfl dX6_dry_23 ?_
      refine r_gd fun h5 => ?_
      refine gX6_39 hO dX6_dry_24 ?_
      refine gX6_127 hO (bM_is h5) dX6_dry_27 ?_
      refine r_iload_n (i := 3) hO rfl rfl dX6_dry_30 ?_
      refine r_iald hO (sM_2 (bM_is h5)) dX6_dry_31 ?_
      refine r_icmp_ge (tgt := 45) hO dX6_dry_32 (by decide) ?_ ?_
      · exact r_jmp (b_X6_dry_45 hO hR ih x1 x2 x3 σ4) (lsub_c rfl (lsub_c rfl (lsub_c rfl (lsub_c rfl lsub_n))))
      · refine r_iload_n (i := 2) hO rfl rfl dX6_dry_35 ?_
        refine r_iload_n (i := 1) hO rfl rfl dX6_dry_36 ?_
        refine r_icmp_ne (tgt := 42) hO dX6_dry_37 (by decide) ?_ ?_
        · refine r_iload_n (i := 3) hO rfl rfl dX6_dry_40 ?_
          exact rx_ret hO hR dX6_dry_41
        · refine r_iinc hO rfl ci_1 rfl rfl dX6_dry_42 ?_
          exact r_jmp (b_X6_dry_45 hO hR ih x1 (x2 + (1 : Int32)) x3 σ4) (lsub_c rfl (lsub_c rfl (lsub_c rfl (lsub_c rfl lsub_n))))
set_option maxRecDepth 20000 in
set_option maxHeartbeats 1000000 in
theorem b_X6_dry {K : Kt}  (hO : Ok K cX6_dry RX6 4 rm_X6_dry) (hR : Rx K)  (a1 : Int32) (σ : Wd) : Cm K 4 (0, 0) (f_X6_dry a1 σ) σ 0 [(0, .ref (K.G.A 0)), (1, .int a1)] [] := by
  refine r_iconst hO ci_0 dX6_dry_0 ?_
  refine r_istore_n (i := 2) hO rfl rfl rfl dX6_dry_1 ?_
  refine r_iconst hO ci_0 dX6_dry_2 ?_
  refine r_istore_n (i := 3) hO rfl rfl rfl dX6_dry_3 ?_
  exact r_jmp (b_X6_dry_4 hO hR FU a1 (0 : Int32) (0 : Int32) σ) (lsub_c rfl (lsub_c rfl (lsub_c rfl (lsub_c rfl lsub_n))))
set_option maxHeartbeats 1000000 in
theorem c_X6_dry {l : Launch} {G : Gh} (hl : l.stackTraces = false) (a1 : Int32) (σ : Wd) : ∀ out, f_X6_dry a1 σ = some out → vx_Met l yX6_dry (.code yX6_dry cX6_dry 4 (some .int) :: gtb) rm_X6_dry (va_Pc [.ref (G.A 0), .int a1] (fun U => Wl G σ U ∧ Xk G U U.heap)) (Qx G out) (Xx G out) 1 6 (zA G) := by
  intro out hf
  refine vx_ofW (cc := cX6_dry) (maxL := 4) (ret := some .int) (by decide) rfl ?_
  intro p e s m args below meth c s₁ B hml hx hv
  obtain ⟨rfl, ⟨hz, hP, hK, hA, hT⟩, hXk⟩ := hv
  have hts := atoms_spec (ws := .code yX6_dry cX6_dry 4 (some .int) :: gtb) B.pre
  have hlv := lv_entry [.ref (G.A 0), .int a1] (n := 4) (Nat.le_of_ble_eq_true rfl)
  rw [lg_entry_eq]
  exact b_X6_dry (K := ((p, l, e, rm_X6_dry, s), (m, ([.ref (G.A 0), .int a1] : List Value).toArray, below, meth, c), (G, fun out => vx_MQ below (Qx G out) (Xx G out) ([.ref (G.A 0), .int a1] : List Value).toArray s 1 6 (zA G))))
    ⟨B.exec, B.bytes, hml, findClass_of_methodNamed B.named, fun w hw => hts w (List.mem_cons_of_mem _ hw), hK, hA, B.notSynchronized, hT, hz, rfl⟩ ⟨B.returns, rfl, hx, hl, hXk⟩ a1 σ out hf s.heap [] _ hP va_S.rf hlv
def f_L_dry (a1 : Int32) (σ : Wd) : Option (Int32 × Wd) := bd (f_X6_dry a1 σ) fun r σ1 => if r = -1 then some (1, σ1) else some (0, wl σ1 120 0 r.toInt64)
theorem cal_X6_dry : CalV yX6_dry cX6_dry 4 (some .int) 1 := ⟨a_1053, a_1054, a_1055, a_2, by decide, by decide, by decide +kernel⟩
theorem Wlx_blind {G : Gh} {σ : Wd} {vs : List Value} : FrameBlind (va_Pc vs (fun U => Wl G σ U ∧ Xk G U U.heap)) := by
  intro a U g mk q
  obtain ⟨q0, ⟨q1, qP, qK, qA, qT⟩, qX⟩ := q
  exact ⟨q0, ⟨q1, qP, va_K.moved (u := U) (U := U.calling g mk a) (Vm.Alike.refl U.vm) qK, qA, qT.same rfl⟩, qX.same rfl⟩
abbrev rm_L_dry : Room := { frames := rm_X6_dry.frames + 1, cells := 1, slots := 6, locals := 8 + (4 + 11) + rm_X6_dry.locals }
set_option maxHeartbeats 4000000 in
theorem c_L_dry {l : Launch} {G : Gh} (hl : l.stackTraces = false) (a1 : Int32) (σ : Wd) : ∀ out, f_L_dry a1 σ = some out → Met l yL_dry (.codeWith yL_dry cL_dry 4 (some .int) [(0, 9, 12, 13)] :: gtb) rm_L_dry (va_Pc [.ref (G.A 0), .int a1, .ref (G.A 120)] (fun U => Wl G σ U ∧ Xk G U U.heap)) (Qo (some .int) G out) 1 6 (zA G) := by
  intro out hf
  refine va_MetW (cc := cL_dry) (maxL := 4) (ret := some .int) (hh := [(0, 9, 12, 13)]) (by decide) rfl ?_
  intro p e s m args below meth c s₁ B hml hv
  obtain ⟨rfl, ⟨hz, hP, hK, hA, hT⟩, hXk⟩ := hv
  have hts := atoms_spec (ws := .codeWith yL_dry cL_dry 4 (some .int) [(0, 9, 12, 13)] :: gtb) B.pre
  have htab := vx_table (x := yL_dry) B (hts _ List.mem_cons_self)
  have hlv := lv_entry [.ref (G.A 0), .int a1, .ref (G.A 120)] (n := 4) (Nat.le_of_ble_eq_true rfl)
  rw [lg_entry_eq]
  generalize (lg_sl ([.ref (G.A 0), .int a1, .ref (G.A 120)] : List Value) ++ List.replicate (4 - (lg_sl ([.ref (G.A 0), .int a1, .ref (G.A 120)] : List Value)).length) Slot.unset).toArray = ls at hlv ⊢
  have hlv : lv_has ls 4 [(0, .ref (G.A 0)), (1, .int a1), (2, .ref (G.A 120))] := hlv
  have hO : Ok ((p, l, e, rm_L_dry, s), (m, ([.ref (G.A 0), .int a1, .ref (G.A 120)] : List Value).toArray, below, meth, c), (G, fun out => MQ below (Qo (some .int) G out) ([.ref (G.A 0), .int a1, .ref (G.A 120)] : List Value).toArray s 1 6 (zA G))) cL_dry RL 4 rm_L_dry :=
    ⟨B.exec, B.bytes, hml, findClass_of_methodNamed B.named, fun w hw => hts w (List.mem_cons_of_mem _ hw), hK, hA, B.notSynchronized, hT, hz, rfl⟩
  have hr : meth.sig.returnType = some .int := B.returns
  have hS : va_S (zA G) s.heap s.heap [] := va_S.rf
  cases hd : f_X6_dry a1 σ with
  | none => unfold f_L_dry at hf; rw [hd] at hf; cases hf
  | some o =>
    obtain ⟨r0, σ0⟩ := o
    have hf2 : (if r0 = -1 then some ((1 : Int32), σ0) else some (0, wl σ0 120 0 r0.toInt64)) = some out := by
      unfold f_L_dry at hf
      rw [hd] at hf
      exact hf
    refine lv_aload_n hO.x hO.b dL_dry_0 rfl (lv_at hlv 2 rfl) ?_
    refine lv_iconst (v := 0) hO.x hO.b dL_dry_1 (by decide) ?_
    refine lv_aload_n hO.x hO.b dL_dry_2 rfl (lv_at hlv 0 rfl) ?_
    refine lv_iload_n hO.x hO.b dL_dry_3 rfl (lv_at hlv 1 rfl) ?_
    refine vx_calli (vx_runV (As := [.int a1]) (rest := [.int 0, .ref (G.A 120)]) ⟨hO.x, hO.b, hO.ml, hO.own, hO.ts⟩ (c_X6_dry hl a1 σ _ hd) ⟨callB_of 1 hO.ts (goodIn_c cal_X6_dry.1) rfl rfl rfl (hO.ts _ cal_X6_dry.2.2.2.1) (hO.ts _ a_1056) cal_X6_dry.2.2.2.2 ⟨Nat.le_refl _, Nat.le_refl _⟩, hO.ts _ cal_X6_dry.2.1, hO.ts _ cal_X6_dry.2.2.1⟩ ⟨Wlx_blind, va_recv hO.k hP rfl (at_O (by decide) ent_X6), fun U hU hW => ⟨rfl, Wl_of hO hP hS hU hW, ?_⟩⟩ rfl rfl hlv.1 rfl (lv_room (Nat.le_of_ble_eq_true rfl)) dL_dry_4 ⟨by decide, by decide⟩) hS (fun q _ h => h) (fun q h => h) (fun q _ h => h) (fun E ce q9 u t H1 locs1 ht hvm hw hBX hz1 hk1 hS1 h1 h2 h3 => ?_) (fun r u t H1 locs1 ht hvm hw hB hz1 hk1 hS1 => ?_)
    · rw [hU]
      exact hXk.moved hW
    · obtain ⟨rfl, hr0⟩ := hw
      obtain ⟨rfl, hP1⟩ := hBX
      rw [ht] at hP1
      have hr0 : r0 = -1 := hr0
      rw [if_pos hr0] at hf2
      cases hf2
      refine vx_catch (own := RL) (name := xN) hO.own [] ⟨0, 9, 12, 13⟩ [] htab (fun z hz => by cases hz) (by decide) (by decide) (hO.ts _ a_1057) (va_Nw.use rfl hXk.1.1) h1 h2 h3 ?_
      refine lv_astore_n (lv' := [(3, .ref q9), (0, .ref (G.A 0)), (1, .int a1), (2, .ref (G.A 120))]) hO.x hO.b dL_dry_12 rfl hlv (by decide) rfl (fun ls2 hl2 => ?_)
      refine lv_iconst (v := 1) hO.x hO.b dL_dry_13 (by decide) ?_
      refine W.widen (k := 1) (n := 6) (by decide) (by decide) ?_
      exact W.iret (v := 1) hO.x hO.b hr (fun t ht hW => ⟨⟨1, u, rfl, ⟨rfl, rfl⟩, Wl_of hO hP1 hS1 ht hW⟩, hS1.F ht⟩) hS1.2.2 dL_dry_14 (hlocks := hO.lk)
    · obtain ⟨rfl, rfl, hr0⟩ := hw
      have hr0 : ¬ r = -1 := hr0
      rw [if_neg hr0] at hf2
      cases hf2
      have hP1 : va_P G.D vwCl (wsOf G u) H1 := by rw [← ht]; exact hB.2.1
      refine lv_i2l hO.x hO.b dL_dry_7 rfl ?_
      refine va_last (ws := wsOf G u) hO.x hO.b hO.k hP1 hO.ad.D hS1 120 2 (at_L s_120) rfl (inb_in (by decide)) dL_dry_8 (fun H2 locs2 hP2 hD2 hS2 => ?_)
      refine lv_goto (tgt := 15) hO.x hO.b dL_dry_9 (by decide) ?_
      refine lv_iconst (v := 0) hO.x hO.b dL_dry_15 (by decide) ?_
      refine W.widen (k := 1) (n := 6) (by decide) (by decide) ?_
      have hP3 : va_P G.D vwCl (wsOf G (wl u 120 0 r.toInt64)) H2 := wsOf_set (sh_lt s_120) (wl_L s_120) (fun a ha => wl_o ha) hP2
      exact W.iret (v := 0) hO.x hO.b hr (fun t ht hW => ⟨⟨0, _, rfl, ⟨rfl, rfl⟩, Wl_of hO hP3 hS2 ht hW⟩, hS2.F ht⟩) hS2.2.2 dL_dry_16 (hlocks := hO.lk)

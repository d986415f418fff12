/-! OrderSplitModel.refused -/
def f_X7_refused (a1 : Int32) (σ : Wd) : Option (Int32 × Wd) := nmW (wi σ 102 1 a1) fun σ1 => nmW (wi σ1 102 2 (-1 : Int32)) fun σ2 => some ((-1 : Int32), σ2)
set_option maxRecDepth 20000 in
set_option maxHeartbeats 1000000 in
theorem b_X7_refused {K : Kt}  (hO : Ok K cX7_refused RX7 2 rm_X7_refused) (hR : Rt K (some .int))  (a1 : Int32) (σ : Wd) : Cm K 2 (0, 0) (f_X7_refused a1 σ) σ 0 [(0, .ref (K.G.A 102)), (1, .int a1)] [] := by
  refine r_aload_n (i := 0) hO rfl rfl dX7_refused_0 ?_
  refine r_iload_n (i := 1) hO rfl rfl dX7_refused_1 ?_
  refine pX7_73 hO dX7_refused_2 ?_
  refine r_nmW fun σ1 => ?_
  refine r_aload_n (i := 0) hO rfl rfl dX7_refused_5 ?_
  refine r_iconst hO ci_m1 dX7_refused_6 ?_
  refine pX7_11 hO dX7_refused_7 ?_
  refine r_nmW fun σ2 => ?_
  refine r_iconst hO ci_m1 dX7_refused_10 ?_
  exact r_iret hO hR dX7_refused_11
theorem c_X7_refused {l : Launch} {G : Gh}   (a1 : Int32) (σ : Wd) : Con l G yX7_refused cX7_refused 2 (some .int) 0 0 [.ref (G.A 102), .int a1] σ (f_X7_refused a1 σ) := Con.of (plainFor_of_name (by decide)) rfl (Nat.le_of_ble_eq_true rfl) (fun K hl hG hO hR => by subst hl; subst hG; exact b_X7_refused hO hR  a1 σ)
theorem cal_X7_refused : CalV yX7_refused cX7_refused 2 (some .int) 1 := ⟨a_461, a_462, a_463, a_464, by decide, by decide, by decide +kernel⟩
theorem k_X7_refused {K : Kt} {nL : Nat} {cs : Nat × Nat} {σ : Wd} {pc : Nat} {lv : List (Nat × Value)} {st : List Value} {cc : ByteArray} {own : String} {rm : Room} {index : Nat} {g : Int32 → Wd → Option (Int32 × Wd)} {a1 : Int32} (hO : Ok K cc own nL rm)  (hl : Cond.methodLink own index yX7_refused ∈ gtb) (hcat : Nat.ble ((st.map fun v => v.category).sum) 8 = true) (hR : RoomOk rm cs 0 0 2) (d : decode cc pc = .ok (.invokevirtual index, 3)) (kk : ∀ (r : Int32) (σ : Wd), Cm K nL cs (g r σ) σ (pc + 3) lv (.int r :: st)) : Cm K nL cs (bd (f_X7_refused a1 σ) g) σ pc lv (.int a1 :: .ref (K.G.A 102) :: st) := r_cVi hO (c_X7_refused  a1 σ) cal_X7_refused hl rfl (by decide) ent_X7 rfl rfl hcat hR d kk
/-! OrderSplitModel.refusedLow -/
def f_X7_refusedLow (a1 : Int32) (σ : Wd) : Option (Int32 × Wd) := bd (f_X7_refused a1 σ) fun r1 σ2 => some ((-2147483648 : Int32), σ2)
set_option maxRecDepth 20000 in
set_option maxHeartbeats 1000000 in
theorem b_X7_refusedLow {K : Kt}  (hO : Ok K cX7_refusedLow RX7 2 rm_X7_refusedLow) (hR : Rt K (some .int))  (a1 : Int32) (σ : Wd) : Cm K 2 (0, 0) (f_X7_refusedLow a1 σ) σ 0 [(0, .ref (K.G.A 102)), (1, .int a1)] [] := by
  refine r_aload_n (i := 0) hO rfl rfl dX7_refusedLow_0 ?_
  refine r_iload_n (i := 1) hO rfl rfl dX7_refusedLow_1 ?_
  refine k_X7_refused hO a_465 rfl ⟨rfl, rfl, Nat.le_refl _, Nat.le_refl _⟩ dX7_refusedLow_2 ?_
  intro r1 σ2
  refine r_pop hO rfl dX7_refusedLow_5 ?_
  refine r_ldc hO a_466 dX7_refusedLow_6 ?_
  exact r_iret hO hR dX7_refusedLow_8
theorem c_X7_refusedLow {l : Launch} {G : Gh}   (a1 : Int32) (σ : Wd) : Con l G yX7_refusedLow cX7_refusedLow 2 (some .int) 1 21 [.ref (G.A 102), .int a1] σ (f_X7_refusedLow a1 σ) := Con.of (plainFor_of_name (by decide)) rfl (Nat.le_of_ble_eq_true rfl) (fun K hl hG hO hR => by subst hl; subst hG; exact b_X7_refusedLow hO hR  a1 σ)
theorem cal_X7_refusedLow : CalV yX7_refusedLow cX7_refusedLow 2 (some .int) 1 := ⟨a_467, a_468, a_469, a_464, by decide, by decide, by decide +kernel⟩
theorem k_X7_refusedLow {K : Kt} {nL : Nat} {cs : Nat × Nat} {σ : Wd} {pc : Nat} {lv : List (Nat × Value)} {st : List Value} {cc : ByteArray} {own : String} {rm : Room} {index : Nat} {g : Int32 → Wd → Option (Int32 × Wd)} {a1 : Int32} (hO : Ok K cc own nL rm)  (hl : Cond.methodLink own index yX7_refusedLow ∈ gtb) (hcat : Nat.ble ((st.map fun v => v.category).sum) 8 = true) (hR : RoomOk rm cs 1 21 2) (d : decode cc pc = .ok (.invokevirtual index, 3)) (kk : ∀ (r : Int32) (σ : Wd), Cm K nL cs (g r σ) σ (pc + 3) lv (.int r :: st)) : Cm K nL cs (bd (f_X7_refusedLow a1 σ) g) σ pc lv (.int a1 :: .ref (K.G.A 102) :: st) := r_cVi hO (c_X7_refusedLow  a1 σ) cal_X7_refusedLow hl rfl (by decide) ent_X7 rfl rfl hcat hR d kk
/-! OrderSplitModel.good -/
def f_X7_good (a1 : Int32) (σ : Wd) : Option (Int32 × Wd) := nmW (wi σ 102 1 (0 : Int32)) fun σ1 => nmW (wi σ1 102 2 (-1 : Int32)) fun σ2 => some (a1, σ2)
set_option maxRecDepth 20000 in
set_option maxHeartbeats 1000000 in
theorem b_X7_good {K : Kt}  (hO : Ok K cX7_good RX7 2 rm_X7_good) (hR : Rt K (some .int))  (a1 : Int32) (σ : Wd) : Cm K 2 (0, 0) (f_X7_good a1 σ) σ 0 [(0, .ref (K.G.A 102)), (1, .int a1)] [] := by
  refine r_aload_n (i := 0) hO rfl rfl dX7_good_0 ?_
  refine r_iconst hO ci_0 dX7_good_1 ?_
  refine pX7_73 hO dX7_good_2 ?_
  refine r_nmW fun σ1 => ?_
  refine r_aload_n (i := 0) hO rfl rfl dX7_good_5 ?_
  refine r_iconst hO ci_m1 dX7_good_6 ?_
  refine pX7_11 hO dX7_good_7 ?_
  refine r_nmW fun σ2 => ?_
  refine r_iload_n (i := 1) hO rfl rfl dX7_good_10 ?_
  exact r_iret hO hR dX7_good_11
theorem c_X7_good {l : Launch} {G : Gh}   (a1 : Int32) (σ : Wd) : Con l G yX7_good cX7_good 2 (some .int) 0 0 [.ref (G.A 102), .int a1] σ (f_X7_good a1 σ) := Con.of (plainFor_of_name (by decide)) rfl (Nat.le_of_ble_eq_true rfl) (fun K hl hG hO hR => by subst hl; subst hG; exact b_X7_good hO hR  a1 σ)
theorem cal_X7_good : CalV yX7_good cX7_good 2 (some .int) 1 := ⟨a_470, a_471, a_472, a_464, by decide, by decide, by decide +kernel⟩
theorem k_X7_good {K : Kt} {nL : Nat} {cs : Nat × Nat} {σ : Wd} {pc : Nat} {lv : List (Nat × Value)} {st : List Value} {cc : ByteArray} {own : String} {rm : Room} {index : Nat} {g : Int32 → Wd → Option (Int32 × Wd)} {a1 : Int32} (hO : Ok K cc own nL rm)  (hl : Cond.methodLink own index yX7_good ∈ gtb) (hcat : Nat.ble ((st.map fun v => v.category).sum) 8 = true) (hR : RoomOk rm cs 0 0 2) (d : decode cc pc = .ok (.invokevirtual index, 3)) (kk : ∀ (r : Int32) (σ : Wd), Cm K nL cs (g r σ) σ (pc + 3) lv (.int r :: st)) : Cm K nL cs (bd (f_X7_good a1 σ) g) σ pc lv (.int a1 :: .ref (K.G.A 102) :: st) := r_cVi hO (c_X7_good  a1 σ) cal_X7_good hl rfl (by decide) ent_X7 rfl rfl hcat hR d kk
/-! OrderSplitModel.in -/
def f_X7_in_15   (s0 : Int32) (σ : Wd) : Option (Int32 × Wd) := gd (isb s0) (some (s0, σ))
def f_X7_in_14    (σ : Wd) : Option (Int32 × Wd) := (f_X7_in_15 (0 : Int32) σ)
def f_X7_in (a0 : Int32) (a1 : Int32) (a2 : Int32) (σ : Wd) : Option (Int32 × Wd) := if a0 < a1 then (f_X7_in_14 σ) else (if a2 < a0 then (f_X7_in_14 σ) else (f_X7_in_15 (1 : Int32) σ))
set_option maxRecDepth 20000 in
set_option maxHeartbeats 1000000 in
theorem b_X7_in_15 {K : Kt}   (hO : Ok K cX7_in RX7 3 rm_X7_in) (hR : Rt K (some .boolean))   (s0 : Int32) (σ : Wd)  : Cm K 3 (0, 0) (f_X7_in_15  s0 σ) σ 15 [] [.int s0] := by
  exact r_zret hO hR dX7_in_15
set_option maxRecDepth 20000 in
set_option maxHeartbeats 1000000 in
theorem b_X7_in_14 {K : Kt}   (hO : Ok K cX7_in RX7 3 rm_X7_in) (hR : Rt K (some .boolean))    (σ : Wd)  : Cm K 3 (0, 0) (f_X7_in_14   σ) σ 14 [] [] := by
  refine r_iconst hO ci_0 dX7_in_14 ?_
  exact r_jmp (b_X7_in_15 hO hR (0 : Int32) σ) lsub_n
set_option maxRecDepth 20000 in
set_option maxHeartbeats 1000000 in
theorem b_X7_in {K : Kt}  (hO : Ok K cX7_in RX7 3 rm_X7_in) (hR : Rt K (some .boolean))  (a0 : Int32) (a1 : Int32) (a2 : Int32) (σ : Wd) : Cm K 3 (0, 0) (f_X7_in a0 a1 a2 σ) σ 0 [(0, .int a0), (1, .int a1), (2, .int a2)] [] := by
  refine r_iload_n (i := 0) hO rfl rfl dX7_in_0 ?_
  refine r_iload_n (i := 1) hO rfl rfl dX7_in_1 ?_
  refine r_icmp_lt (tgt := 14) hO dX7_in_2 (by decide) ?_ ?_
  · exact r_jmp (b_X7_in_14 hO hR σ) lsub_n
  · refine r_iload_n (i := 0) hO rfl rfl dX7_in_5 ?_
    refine r_iload_n (i := 2) hO rfl rfl dX7_in_6 ?_
    refine r_icmp_gt (tgt := 14) hO dX7_in_7 (by decide) ?_ ?_
    · exact r_jmp (b_X7_in_14 hO hR σ) lsub_n
    · refine r_iconst hO ci_1 dX7_in_10 ?_
      refine r_goto (tgt := 15) hO dX7_in_11 (by decide) ?_
      exact r_jmp (b_X7_in_15 hO hR (1 : Int32) σ) lsub_n
theorem c_X7_in {l : Launch} {G : Gh}   (a0 : Int32) (a1 : Int32) (a2 : Int32) (σ : Wd) : Con l G yX7_in cX7_in 3 (some .boolean) 0 0 [.int a0, .int a1, .int a2] σ (f_X7_in a0 a1 a2 σ) := Con.of (plainFor_of_name (by decide)) rfl (Nat.le_of_ble_eq_true rfl) (fun K hl hG hO hR => by subst hl; subst hG; exact b_X7_in hO hR  a0 a1 a2 σ)
theorem cal_X7_in : CalS yX7_in cX7_in 3 (some .boolean) 3 := ⟨a_473, a_474, a_464, by decide, by decide, by decide +kernel⟩
theorem k_X7_in {K : Kt} {nL : Nat} {cs : Nat × Nat} {σ : Wd} {pc : Nat} {lv : List (Nat × Value)} {st : List Value} {cc : ByteArray} {own : String} {rm : Room} {index : Nat} {g : Int32 → Wd → Option (Int32 × Wd)} {a0 : Int32} {a1 : Int32} {a2 : Int32} (hO : Ok K cc own nL rm)  (hl : Cond.methodLink own index yX7_in ∈ gtb) (hcat : Nat.ble ((st.map fun v => v.category).sum) 8 = true) (hR : RoomOk rm cs 0 0 3) (d : decode cc pc = .ok (.invokestatic index, 3)) (kk : ∀ (r : Int32) (σ : Wd), Cm K nL cs (g r σ) σ (pc + 3) lv (.int r :: st)) : Cm K nL cs (bd (f_X7_in a0 a1 a2 σ) g) σ pc lv (.int a2 :: .int a1 :: .int a0 :: st) := r_cSi hO (c_X7_in  a0 a1 a2 σ) cal_X7_in hl rfl rfl hcat hR d kk
/-! OrderSplitModel.lower -/
def f_X7_lower_21   (s0 : Int32) (σ : Wd) : Option (Int32 × Wd) := some (s0, σ)
def f_X7_lower_20   (x2 : Int32) (σ : Wd) : Option (Int32 × Wd) := (f_X7_lower_21 x2 σ)
def f_X7_lower (a0 : Int32) (a1 : Int32) (σ : Wd) : Option (Int32 × Wd) := gd (!decide (a1 = 0)) (gd (!decide (a1 = 0)) (if (a0 % a1) = 0 then (f_X7_lower_20 (a0 / a1) σ) else (if 0 ≤ a0 then (f_X7_lower_20 (a0 / a1) σ) else (f_X7_lower_21 ((a0 / a1) - (1 : Int32)) σ))))
set_option maxRecDepth 20000 in
set_option maxHeartbeats 1000000 in
theorem b_X7_lower_21 {K : Kt}   (hO : Ok K cX7_lower RX7 3 rm_X7_lower) (hR : Rt K (some .int))   (s0 : Int32) (σ : Wd)  : Cm K 3 (0, 0) (f_X7_lower_21  s0 σ) σ 21 [] [.int s0] := by
  exact r_iret hO hR dX7_lower_21
set_option maxRecDepth 20000 in
set_option maxHeartbeats 1000000 in
theorem b_X7_lower_20 {K : Kt}   (hO : Ok K cX7_lower RX7 3 rm_X7_lower) (hR : Rt K (some .int))   (x2 : Int32) (σ : Wd)  : Cm K 3 (0, 0) (f_X7_lower_20  x2 σ) σ 20 [(2, .int x2)] [] := by
  refine r_iload_n (i := 2) hO rfl rfl dX7_lower_20 ?_
  exact r_jmp (b_X7_lower_21 hO hR x2 σ) lsub_n
set_option maxRecDepth 20000 in
set_option maxHeartbeats 1000000 in
theorem b_X7_lower {K : Kt}  (hO : Ok K cX7_lower RX7 3 rm_X7_lower) (hR : Rt K (some .int))  (a0 : Int32) (a1 : Int32) (σ : Wd) : Cm K 3 (0, 0) (f_X7_lower a0 a1 σ) σ 0 [(0, .int a0), (1, .int a1)] [] := by
  refine r_iload_n (i := 0) hO rfl rfl dX7_lower_0 ?_
  refine r_iload_n (i := 1) hO rfl rfl dX7_lower_1 ?_
  refine r_idiv hO dX7_lower_2 ?_
  refine r_istore_n (i := 2) hO rfl rfl rfl dX7_lower_3 ?_
  refine r_iload_n (i := 0) hO rfl rfl dX7_lower_4 ?_
  refine r_iload_n (i := 1) hO rfl rfl dX7_lower_5 ?_
  refine r_irem hO dX7_lower_6 ?_
  refine r_if_eq (tgt := 20) hO dX7_lower_7 (by decide) ?_ ?_
  · exact r_jmp (b_X7_lower_20 hO hR (a0 / a1) σ) (lsub_c rfl lsub_n)
  · refine r_iload_n (i := 0) hO rfl rfl dX7_lower_10 ?_
    refine r_if_ge (tgt := 20) hO dX7_lower_11 (by decide) ?_ ?_
    · exact r_jmp (b_X7_lower_20 hO hR (a0 / a1) σ) (lsub_c rfl lsub_n)
    · refine r_iload_n (i := 2) hO rfl rfl dX7_lower_14 ?_
      refine r_iconst hO ci_1 dX7_lower_15 ?_
      refine r_isub hO dX7_lower_16 ?_
      refine r_goto (tgt := 21) hO dX7_lower_17 (by decide) ?_
      exact r_jmp (b_X7_lower_21 hO hR ((a0 / a1) - (1 : Int32)) σ) lsub_n
theorem c_X7_lower {l : Launch} {G : Gh}   (a0 : Int32) (a1 : Int32) (σ : Wd) : Con l G yX7_lower cX7_lower 3 (some .int) 0 0 [.int a0, .int a1] σ (f_X7_lower a0 a1 σ) := Con.of (plainFor_of_name (by decide)) rfl (Nat.le_of_ble_eq_true rfl) (fun K hl hG hO hR => by subst hl; subst hG; exact b_X7_lower hO hR  a0 a1 σ)
theorem cal_X7_lower : CalS yX7_lower cX7_lower 3 (some .int) 2 := ⟨a_475, a_476, a_464, by decide, by decide, by decide +kernel⟩
theorem k_X7_lower {K : Kt} {nL : Nat} {cs : Nat × Nat} {σ : Wd} {pc : Nat} {lv : List (Nat × Value)} {st : List Value} {cc : ByteArray} {own : String} {rm : Room} {index : Nat} {g : Int32 → Wd → Option (Int32 × Wd)} {a0 : Int32} {a1 : Int32} (hO : Ok K cc own nL rm)  (hl : Cond.methodLink own index yX7_lower ∈ gtb) (hcat : Nat.ble ((st.map fun v => v.category).sum) 8 = true) (hR : RoomOk rm cs 0 0 3) (d : decode cc pc = .ok (.invokestatic index, 3)) (kk : ∀ (r : Int32) (σ : Wd), Cm K nL cs (g r σ) σ (pc + 3) lv (.int r :: st)) : Cm K nL cs (bd (f_X7_lower a0 a1 σ) g) σ pc lv (.int a1 :: .int a0 :: st) := r_cSi hO (c_X7_lower  a0 a1 σ) cal_X7_lower hl rfl rfl hcat hR d kk
/-! OrderSplitModel.copies -/
def f_X7_copies_2 (q0 : Nat) (l0 : Nat) (q1 : Nat) (l1 : Nat)  : Nat → Int32 → Wd → Option (Int32 × Wd)
  | 0 => fun _ _ => none
  | n + 1 => fun x2 σ => if (179 : Int32) ≤ x2 then (some (0, σ)) else (gd (inb x2 l0) (gd (inb x2 l1) (nmW (wi σ q1 (ix x2) (σ.1 q0 (ix x2))) fun σ1 => (f_X7_copies_2 q0 l0 q1 l1 n (x2 + (1 : Int32)) σ1))))
def f_X7_copies (q0 : Nat) (l0 : Nat) (q1 : Nat) (l1 : Nat) (σ : Wd) : Option (Int32 × Wd) := (f_X7_copies_2 q0 l0 q1 l1 FU (0 : Int32) σ)
set_option maxRecDepth 20000 in
set_option maxHeartbeats 1000000 in
theorem b_X7_copies_2 {K : Kt} {q0 : Nat} {l0 : Nat} {q1 : Nat} {l1 : Nat}  (hO : Ok K cX7_copies RX7 3 rm_X7_copies) (hR : Rt K none) (hq0 : sh q0 0 l0) (hq1 : sh q1 0 l1)  : ∀ (n : Nat) (x2 : Int32) (σ : Wd) , Cm K 3 (0, 0) (f_X7_copies_2 q0 l0 q1 l1 n x2 σ) σ 2 [(0, .ref (K.G.A q0)), (1, .ref (K.G.A q1)), (2, .int x2)] [] := by
  intro n
  induction n with
  | zero => intro x2 σ ; exact r_none
  | succ n ih =>
    intro x2 σ 
    refine r_iload_n (i := 2) hO rfl rfl dX7_copies_2 ?_
    refine r_sipush hO si_179 dX7_copies_3 ?_
    refine r_icmp_ge (tgt := 21) hO dX7_copies_6 (by decide) ?_ ?_
    · exact r_vret hO hR dX7_copies_21
    · refine r_aload_n (i := 1) hO rfl rfl dX7_copies_9 ?_
      refine r_iload_n (i := 2) hO rfl rfl dX7_copies_10 ?_
      refine r_aload_n (i := 0) hO rfl rfl dX7_copies_11 ?_
      refine r_iload_n (i := 2) hO rfl rfl dX7_copies_12 ?_
      refine r_iald hO hq0 dX7_copies_13 ?_
      refine r_iast hO hq1 dX7_copies_14 ?_
      refine r_nmW fun σ1 => ?_
      refine r_iinc hO rfl ci_1 rfl rfl dX7_copies_15 ?_
      refine r_goto (tgt := 2) hO dX7_copies_18 (by decide) ?_
      exact r_jmp (ih (x2 + (1 : Int32)) σ1) (lsub_c rfl (lsub_c rfl (lsub_c rfl lsub_n)))
set_option maxRecDepth 20000 in
set_option maxHeartbeats 1000000 in
theorem b_X7_copies {K : Kt} {q0 : Nat} {l0 : Nat} {q1 : Nat} {l1 : Nat} (hO : Ok K cX7_copies RX7 3 rm_X7_copies) (hR : Rt K none) (hq0 : sh q0 0 l0) (hq1 : sh q1 0 l1)  (σ : Wd) : Cm K 3 (0, 0) (f_X7_copies q0 l0 q1 l1 σ) σ 0 [(0, .ref (K.G.A q0)), (1, .ref (K.G.A q1))] [] := by
  refine r_iconst hO ci_0 dX7_copies_0 ?_
  refine r_istore_n (i := 2) hO rfl rfl rfl dX7_copies_1 ?_
  exact r_jmp (b_X7_copies_2 hO hR hq0 hq1 FU (0 : Int32) σ) (lsub_c rfl (lsub_c rfl (lsub_c rfl lsub_n)))
theorem c_X7_copies {l : Launch} {G : Gh} {q0 : Nat} {l0 : Nat} {q1 : Nat} {l1 : Nat} (hq0 : sh q0 0 l0) (hq1 : sh q1 0 l1)  (σ : Wd) : Con l G yX7_copies cX7_copies 3 none 0 0 [.ref (G.A q0), .ref (G.A q1)] σ (f_X7_copies q0 l0 q1 l1 σ) := Con.of (plainFor_of_name (by decide)) rfl (Nat.le_of_ble_eq_true rfl) (fun K hl hG hO hR => by subst hl; subst hG; exact b_X7_copies hO hR hq0 hq1  σ)
theorem cal_X7_copies : CalS yX7_copies cX7_copies 3 none 2 := ⟨a_477, a_478, a_464, by decide, by decide, by decide +kernel⟩
theorem k_X7_copies {K : Kt} {nL : Nat} {cs : Nat × Nat} {σ : Wd} {pc : Nat} {lv : List (Nat × Value)} {st : List Value} {cc : ByteArray} {own : String} {rm : Room} {index : Nat} {g : Int32 → Wd → Option (Int32 × Wd)} {q0 : Nat} {l0 : Nat} {q1 : Nat} {l1 : Nat} (hO : Ok K cc own nL rm) (hq0 : sh q0 0 l0) (hq1 : sh q1 0 l1) (hl : Cond.methodLink own index yX7_copies ∈ gtb) (hcat : Nat.ble ((st.map fun v => v.category).sum) 8 = true) (hR : RoomOk rm cs 0 0 3) (d : decode cc pc = .ok (.invokestatic index, 3)) (kk : ∀ (r : Int32) (σ : Wd), Cm K nL cs (g r σ) σ (pc + 3) lv st) : Cm K nL cs (bd (f_X7_copies q0 l0 q1 l1 σ) g) σ pc lv (.ref (K.G.A q1) :: .ref (K.G.A q0) :: st) := r_cSv hO (c_X7_copies hq0 hq1  σ) cal_X7_copies hl rfl rfl hcat hR d kk
/-! OrderSplitModel.byteAt -/
def f_X7_byteAt_22   (s0 : Int32) (σ : Wd) : Option (Int32 × Wd) := some (s0, σ)
def f_X7_byteAt (a1 : Int32) (σ : Wd) : Option (Int32 × Wd) := if (σ.1 102 28) ≤ a1 then (f_X7_byteAt_22 (-1 : Int32) σ) else (gd (inb a1 900) ((f_X7_byteAt_22 ((σ.1 115 (ix a1)) &&& (255 : Int32)) σ)))
set_option maxRecDepth 20000 in
set_option maxHeartbeats 1000000 in
theorem b_X7_byteAt_22 {K : Kt}   (hO : Ok K cX7_byteAt RX7 2 rm_X7_byteAt) (hR : Rt K (some .int))   (s0 : Int32) (σ : Wd)  : Cm K 2 (0, 0) (f_X7_byteAt_22  s0 σ) σ 22 [] [.int s0] := by
  exact r_iret hO hR dX7_byteAt_22
set_option maxRecDepth 20000 in
set_option maxHeartbeats 1000000 in
theorem b_X7_byteAt {K : Kt}  (hO : Ok K cX7_byteAt RX7 2 rm_X7_byteAt) (hR : Rt K (some .int))  (a1 : Int32) (σ : Wd) : Cm K 2 (0, 0) (f_X7_byteAt a1 σ) σ 0 [(0, .ref (K.G.A 102)), (1, .int a1)] [] := by
  refine r_iload_n (i := 1) hO rfl rfl dX7_byteAt_0 ?_
  refine r_aload_n (i := 0) hO rfl rfl dX7_byteAt_1 ?_
  refine gX7_81 hO dX7_byteAt_2 ?_
  refine r_icmp_ge (tgt := 21) hO dX7_byteAt_5 (by decide) ?_ ?_
  · refine r_iconst hO ci_m1 dX7_byteAt_21 ?_
    exact r_jmp (b_X7_byteAt_22 hO hR (-1 : Int32) σ) lsub_n
  · refine r_aload_n (i := 0) hO rfl rfl dX7_byteAt_8 ?_
    refine gX7_53 hO dX7_byteAt_9 ?_
    refine r_iload_n (i := 1) hO rfl rfl dX7_byteAt_12 ?_
    refine r_bald hO s_115 dX7_byteAt_13 ?_
    refine r_sipush hO si_255 dX7_byteAt_14 ?_
    refine r_iand hO dX7_byteAt_17 ?_
    refine r_goto (tgt := 22) hO dX7_byteAt_18 (by decide) ?_
    exact r_jmp (b_X7_byteAt_22 hO hR ((σ.1 115 (ix a1)) &&& (255 : Int32)) σ) lsub_n
theorem c_X7_byteAt {l : Launch} {G : Gh}   (a1 : Int32) (σ : Wd) : Con l G yX7_byteAt cX7_byteAt 2 (some .int) 0 0 [.ref (G.A 102), .int a1] σ (f_X7_byteAt a1 σ) := Con.of (plainFor_of_name (by decide)) rfl (Nat.le_of_ble_eq_true rfl) (fun K hl hG hO hR => by subst hl; subst hG; exact b_X7_byteAt hO hR  a1 σ)
theorem cal_X7_byteAt : CalV yX7_byteAt cX7_byteAt 2 (some .int) 1 := ⟨a_479, a_480, a_481, a_464, by decide, by decide, by decide +kernel⟩
theorem k_X7_byteAt {K : Kt} {nL : Nat} {cs : Nat × Nat} {σ : Wd} {pc : Nat} {lv : List (Nat × Value)} {st : List Value} {cc : ByteArray} {own : String} {rm : Room} {index : Nat} {g : Int32 → Wd → Option (Int32 × Wd)} {a1 : Int32} (hO : Ok K cc own nL rm)  (hl : Cond.methodLink own index yX7_byteAt ∈ gtb) (hcat : Nat.ble ((st.map fun v => v.category).sum) 8 = true) (hR : RoomOk rm cs 0 0 2) (d : decode cc pc = .ok (.invokevirtual index, 3)) (kk : ∀ (r : Int32) (σ : Wd), Cm K nL cs (g r σ) σ (pc + 3) lv (.int r :: st)) : Cm K nL cs (bd (f_X7_byteAt a1 σ) g) σ pc lv (.int a1 :: .ref (K.G.A 102) :: st) := r_cVi hO (c_X7_byteAt  a1 σ) cal_X7_byteAt hl rfl (by decide) ent_X7 rfl rfl hcat hR d kk
/-! OrderSplitModel.nextWord -/
def f_X7_nextWord_58  (k5 : Wd → Option (Int32 × Wd))  (σ : Wd) : Option (Int32 × Wd) := nmW (wi σ 102 29 ((σ.1 102 29) + (1 : Int32))) fun σ1 => (k5 σ1)
def f_X7_nextWord_91   (s1 : Int32) (σ : Wd) : Option (Int32 × Wd) := nmW (wi σ 102 30 s1) fun σ1 => some (0, σ1)
def f_X7_nextWord_5   : Nat → Wd → Option (Int32 × Wd)
  | 0 => fun _ => none
  | n + 1 => fun  σ => bd (f_X7_byteAt (σ.1 102 29) σ) fun r1 σ2 => bd (f_X7_in r1 (97 : Int32) (122 : Int32) σ2) fun r3 σ4 => if r3 = 0 then (if ((σ4.1 102 29) - (σ4.1 102 31)) ≤ (6 : Int32) then (f_X7_nextWord_91 (2 : Int32) σ4) else (f_X7_nextWord_91 (0 : Int32) σ4)) else (if (6 : Int32) ≤ ((σ4.1 102 29) - (σ4.1 102 31)) then (f_X7_nextWord_58 (f_X7_nextWord_5 n) σ4) else (bd (f_X7_byteAt (σ4.1 102 29) σ4) fun r5 σ6 => nmW (wl σ6 102 34 (((σ4.2.1 102 34) <<< ((8 : Int32).toInt64 &&& 63)) ||| (r5.toInt64))) fun σ7 => (f_X7_nextWord_58 (f_X7_nextWord_5 n) σ7)))
def f_X7_nextWord  (σ : Wd) : Option (Int32 × Wd) := nmW (wl σ 102 34 0) fun σ1 => (f_X7_nextWord_5 FU σ1)
set_option maxRecDepth 20000 in
set_option maxHeartbeats 1000000 in
theorem b_X7_nextWord_58 {K : Kt}  {k5 : Wd → Option (Int32 × Wd)} (hO : Ok K cX7_nextWord RX7 1 rm_X7_nextWord) (hR : Rt K none)   (hk5 : ∀  (σ : Wd), Cm K 1 (0, 0) (k5  σ) σ 5 [(0, .ref (K.G.A 102))] [])  (σ : Wd)  : Cm K 1 (0, 0) (f_X7_nextWord_58 k5  σ) σ 58 [(0, .ref (K.G.A 102))] [] := by
  refine r_aload_n (i := 0) hO rfl rfl dX7_nextWord_58 ?_
  refine r_dup hO rfl dX7_nextWord_59 ?_
  refine gX7_87 hO dX7_nextWord_60 ?_
  refine r_iconst hO ci_1 dX7_nextWord_63 ?_
  refine r_iadd hO dX7_nextWord_64 ?_
  refine pX7_87 hO dX7_nextWord_65 ?_
  refine r_nmW fun σ1 => ?_
  refine r_goto (tgt := 5) hO dX7_nextWord_68 (by decide) ?_
  exact r_jmp (hk5 σ1) (lsub_c rfl lsub_n)
set_option maxRecDepth 20000 in
set_option maxHeartbeats 1000000 in
theorem b_X7_nextWord_91 {K : Kt}   (hO : Ok K cX7_nextWord RX7 1 rm_X7_nextWord) (hR : Rt K none)   (s1 : Int32) (σ : Wd)  : Cm K 1 (0, 0) (f_X7_nextWord_91  s1 σ) σ 91 [] [.int s1, .ref (K.G.A 102)] := by
  refine pX7_96 hO dX7_nextWord_91 ?_
  refine r_nmW fun σ1 => ?_
  exact r_vret hO hR dX7_nextWord_94
set_option maxRecDepth 20000 in
set_option maxHeartbeats 1000000 in
theorem b_X7_nextWord_5 {K : Kt}   (hO : Ok K cX7_nextWord RX7 1 rm_X7_nextWord) (hR : Rt K none)   : ∀ (n : Nat)  (σ : Wd) , Cm K 1 (0, 0) (f_X7_nextWord_5  n  σ) σ 5 [(0, .ref (K.G.A 102))] [] := by
  intro n
  induction n with
  | zero => intro  σ ; exact r_none
  | succ n ih =>
    intro  σ 
    refine r_aload_n (i := 0) hO rfl rfl dX7_nextWord_5 ?_
    refine r_aload_n (i := 0) hO rfl rfl dX7_nextWord_6 ?_
    refine gX7_87 hO dX7_nextWord_7 ?_
    refine k_X7_byteAt hO a_482 rfl ⟨rfl, rfl, Nat.le_refl _, Nat.le_refl _⟩ dX7_nextWord_10 ?_
    intro r1 σ2
    refine r_bipush hO bi_97 dX7_nextWord_13 ?_
    refine r_bipush hO bi_122 dX7_nextWord_15 ?_
    refine k_X7_in hO a_483 rfl ⟨rfl, rfl, Nat.le_refl _, Nat.le_refl _⟩ dX7_nextWord_17 ?_
    intro r3 σ4
    refine r_if_eq (tgt := 71) hO dX7_nextWord_20 (by decide) ?_ ?_
    · refine r_aload_n (i := 0) hO rfl rfl dX7_nextWord_71 ?_
      refine r_aload_n (i := 0) hO rfl rfl dX7_nextWord_72 ?_
      refine gX7_87 hO dX7_nextWord_73 ?_
      refine r_aload_n (i := 0) hO rfl rfl dX7_nextWord_76 ?_
      refine gX7_93 hO dX7_nextWord_77 ?_
      refine r_isub hO dX7_nextWord_80 ?_
      refine r_bipush hO bi_6 dX7_nextWord_81 ?_
      refine r_icmp_le (tgt := 90) hO dX7_nextWord_83 (by decide) ?_ ?_
      · refine r_iconst hO ci_2 dX7_nextWord_90 ?_
        exact r_jmp (b_X7_nextWord_91 hO hR (2 : Int32) σ4) lsub_n
      · refine r_iconst hO ci_0 dX7_nextWord_86 ?_
        refine r_goto (tgt := 91) hO dX7_nextWord_87 (by decide) ?_
        exact r_jmp (b_X7_nextWord_91 hO hR (0 : Int32) σ4) lsub_n
    · refine r_aload_n (i := 0) hO rfl rfl dX7_nextWord_23 ?_
      refine gX7_87 hO dX7_nextWord_24 ?_
      refine r_aload_n (i := 0) hO rfl rfl dX7_nextWord_27 ?_
      refine gX7_93 hO dX7_nextWord_28 ?_
      refine r_isub hO dX7_nextWord_31 ?_
      refine r_bipush hO bi_6 dX7_nextWord_32 ?_
      refine r_icmp_ge (tgt := 58) hO dX7_nextWord_34 (by decide) ?_ ?_
      · exact r_jmp (b_X7_nextWord_58 hO hR ih σ4) (lsub_c rfl lsub_n)
      · refine r_aload_n (i := 0) hO rfl rfl dX7_nextWord_37 ?_
        refine r_aload_n (i := 0) hO rfl rfl dX7_nextWord_38 ?_
        refine gX7_113 hO dX7_nextWord_39 ?_
        refine r_bipush hO bi_8 dX7_nextWord_42 ?_
        refine r_lshl hO dX7_nextWord_44 ?_
        refine r_aload_n (i := 0) hO rfl rfl dX7_nextWord_45 ?_
        refine r_aload_n (i := 0) hO rfl rfl dX7_nextWord_46 ?_
        refine gX7_87 hO dX7_nextWord_47 ?_
        refine k_X7_byteAt hO a_482 rfl ⟨rfl, rfl, Nat.le_refl _, Nat.le_refl _⟩ dX7_nextWord_50 ?_
        intro r5 σ6
        refine r_i2l hO dX7_nextWord_53 ?_
        refine r_lor hO dX7_nextWord_54 ?_
        refine pX7_113 hO dX7_nextWord_55 ?_
        refine r_nmW fun σ7 => ?_
        exact r_jmp (b_X7_nextWord_58 hO hR ih σ7) (lsub_c rfl lsub_n)
set_option maxRecDepth 20000 in
set_option maxHeartbeats 1000000 in
theorem b_X7_nextWord {K : Kt}  (hO : Ok K cX7_nextWord RX7 1 rm_X7_nextWord) (hR : Rt K none)   (σ : Wd) : Cm K 1 (0, 0) (f_X7_nextWord  σ) σ 0 [(0, .ref (K.G.A 102))] [] := by
  refine r_aload_n (i := 0) hO rfl rfl dX7_nextWord_0 ?_
  refine r_lconst (v := 0) hO rfl dX7_nextWord_1 ?_
  refine pX7_113 hO dX7_nextWord_2 ?_
  refine r_nmW fun σ1 => ?_
  exact r_jmp (b_X7_nextWord_5 hO hR FU σ1) (lsub_c rfl lsub_n)
theorem c_X7_nextWord {l : Launch} {G : Gh}    (σ : Wd) : Con l G yX7_nextWord cX7_nextWord 1 none 1 22 [.ref (G.A 102)] σ (f_X7_nextWord  σ) := Con.of (plainFor_of_name (by decide)) rfl (Nat.le_of_ble_eq_true rfl) (fun K hl hG hO hR => by subst hl; subst hG; exact b_X7_nextWord hO hR   σ)
theorem cal_X7_nextWord : CalV yX7_nextWord cX7_nextWord 1 none 0 := ⟨a_484, a_485, a_486, a_464, by decide, by decide, by decide +kernel⟩
theorem k_X7_nextWord {K : Kt} {nL : Nat} {cs : Nat × Nat} {σ : Wd} {pc : Nat} {lv : List (Nat × Value)} {st : List Value} {cc : ByteArray} {own : String} {rm : Room} {index : Nat} {g : Int32 → Wd → Option (Int32 × Wd)}  (hO : Ok K cc own nL rm)  (hl : Cond.methodLink own index yX7_nextWord ∈ gtb) (hcat : Nat.ble ((st.map fun v => v.category).sum) 8 = true) (hR : RoomOk rm cs 1 22 1) (d : decode cc pc = .ok (.invokevirtual index, 3)) (kk : ∀ (r : Int32) (σ : Wd), Cm K nL cs (g r σ) σ (pc + 3) lv st) : Cm K nL cs (bd (f_X7_nextWord  σ) g) σ pc lv (.ref (K.G.A 102) :: st) := r_cVv hO (c_X7_nextWord   σ) cal_X7_nextWord hl rfl (by decide) ent_X7 rfl rfl hcat hR d kk
/-! OrderSplitModel.nextWhole -/
def f_X7_nextWhole_59  (k5 : Wd → Option (Int32 × Wd))  (σ : Wd) : Option (Int32 × Wd) := nmW (wi σ 102 29 ((σ.1 102 29) + (1 : Int32))) fun σ1 => (k5 σ1)
def f_X7_nextWhole_91   (s1 : Int32) (σ : Wd) : Option (Int32 × Wd) := nmW (wi σ 102 30 s1) fun σ1 => some (0, σ1)
def f_X7_nextWhole_5   : Nat → Wd → Option (Int32 × Wd)
  | 0 => fun _ => none
  | n + 1 => fun  σ => bd (f_X7_byteAt (σ.1 102 29) σ) fun r1 σ2 => bd (f_X7_in r1 (48 : Int32) (57 : Int32) σ2) fun r3 σ4 => if r3 = 0 then (if ((σ4.1 102 29) - (σ4.1 102 31)) ≤ (3 : Int32) then (f_X7_nextWhole_91 (3 : Int32) σ4) else (f_X7_nextWhole_91 (0 : Int32) σ4)) else (if (3 : Int32) ≤ ((σ4.1 102 29) - (σ4.1 102 31)) then (f_X7_nextWhole_59 (f_X7_nextWhole_5 n) σ4) else (bd (f_X7_byteAt (σ4.1 102 29) σ4) fun r5 σ6 => nmW (wi σ6 102 32 ((((10 : Int32) * (σ4.1 102 32)) + r5) - (48 : Int32))) fun σ7 => (f_X7_nextWhole_59 (f_X7_nextWhole_5 n) σ7)))
def f_X7_nextWhole  (σ : Wd) : Option (Int32 × Wd) := nmW (wi σ 102 32 (0 : Int32)) fun σ1 => (f_X7_nextWhole_5 FU σ1)
set_option maxRecDepth 20000 in
set_option maxHeartbeats 1000000 in
theorem b_X7_nextWhole_59 {K : Kt}  {k5 : Wd → Option (Int32 × Wd)} (hO : Ok K cX7_nextWhole RX7 1 rm_X7_nextWhole) (hR : Rt K none)   (hk5 : ∀  (σ : Wd), Cm K 1 (0, 0) (k5  σ) σ 5 [(0, .ref (K.G.A 102))] [])  (σ : Wd)  : Cm K 1 (0, 0) (f_X7_nextWhole_59 k5  σ) σ 59 [(0, .ref (K.G.A 102))] [] := by
  refine r_aload_n (i := 0) hO rfl rfl dX7_nextWhole_59 ?_
  refine r_dup hO rfl dX7_nextWhole_60 ?_
  refine gX7_87 hO dX7_nextWhole_61 ?_
  refine r_iconst hO ci_1 dX7_nextWhole_64 ?_
  refine r_iadd hO dX7_nextWhole_65 ?_
  refine pX7_87 hO dX7_nextWhole_66 ?_
  refine r_nmW fun σ1 => ?_
  refine r_goto (tgt := 5) hO dX7_nextWhole_69 (by decide) ?_
  exact r_jmp (hk5 σ1) (lsub_c rfl lsub_n)
set_option maxRecDepth 20000 in
set_option maxHeartbeats 1000000 in
theorem b_X7_nextWhole_91 {K : Kt}   (hO : Ok K cX7_nextWhole RX7 1 rm_X7_nextWhole) (hR : Rt K none)   (s1 : Int32) (σ : Wd)  : Cm K 1 (0, 0) (f_X7_nextWhole_91  s1 σ) σ 91 [] [.int s1, .ref (K.G.A 102)] := by
  refine pX7_96 hO dX7_nextWhole_91 ?_
  refine r_nmW fun σ1 => ?_
  exact r_vret hO hR dX7_nextWhole_94
set_option maxRecDepth 20000 in
set_option maxHeartbeats 1000000 in
theorem b_X7_nextWhole_5 {K : Kt}   (hO : Ok K cX7_nextWhole RX7 1 rm_X7_nextWhole) (hR : Rt K none)   : ∀ (n : Nat)  (σ : Wd) , Cm K 1 (0, 0) (f_X7_nextWhole_5  n  σ) σ 5 [(0, .ref (K.G.A 102))] [] := by
  intro n
  induction n with
  | zero => intro  σ ; exact r_none
  | succ n ih =>
    intro  σ 
    refine r_aload_n (i := 0) hO rfl rfl dX7_nextWhole_5 ?_
    refine r_aload_n (i := 0) hO rfl rfl dX7_nextWhole_6 ?_
    refine gX7_87 hO dX7_nextWhole_7 ?_
    refine k_X7_byteAt hO a_482 rfl ⟨rfl, rfl, Nat.le_refl _, Nat.le_refl _⟩ dX7_nextWhole_10 ?_
    intro r1 σ2
    refine r_bipush hO bi_48 dX7_nextWhole_13 ?_
    refine r_bipush hO bi_57 dX7_nextWhole_15 ?_
    refine k_X7_in hO a_483 rfl ⟨rfl, rfl, Nat.le_refl _, Nat.le_refl _⟩ dX7_nextWhole_17 ?_
    intro r3 σ4
    refine r_if_eq (tgt := 72) hO dX7_nextWhole_20 (by decide) ?_ ?_
    · refine r_aload_n (i := 0) hO rfl rfl dX7_nextWhole_72 ?_
      refine r_aload_n (i := 0) hO rfl rfl dX7_nextWhole_73 ?_
      refine gX7_87 hO dX7_nextWhole_74 ?_
      refine r_aload_n (i := 0) hO rfl rfl dX7_nextWhole_77 ?_
      refine gX7_93 hO dX7_nextWhole_78 ?_
      refine r_isub hO dX7_nextWhole_81 ?_
      refine r_iconst hO ci_3 dX7_nextWhole_82 ?_
      refine r_icmp_le (tgt := 90) hO dX7_nextWhole_83 (by decide) ?_ ?_
      · refine r_iconst hO ci_3 dX7_nextWhole_90 ?_
        exact r_jmp (b_X7_nextWhole_91 hO hR (3 : Int32) σ4) lsub_n
      · refine r_iconst hO ci_0 dX7_nextWhole_86 ?_
        refine r_goto (tgt := 91) hO dX7_nextWhole_87 (by decide) ?_
        exact r_jmp (b_X7_nextWhole_91 hO hR (0 : Int32) σ4) lsub_n
    · refine r_aload_n (i := 0) hO rfl rfl dX7_nextWhole_23 ?_
      refine gX7_87 hO dX7_nextWhole_24 ?_
      refine r_aload_n (i := 0) hO rfl rfl dX7_nextWhole_27 ?_
      refine gX7_93 hO dX7_nextWhole_28 ?_
      refine r_isub hO dX7_nextWhole_31 ?_
      refine r_iconst hO ci_3 dX7_nextWhole_32 ?_
      refine r_icmp_ge (tgt := 59) hO dX7_nextWhole_33 (by decide) ?_ ?_
      · exact r_jmp (b_X7_nextWhole_59 hO hR ih σ4) (lsub_c rfl lsub_n)
      · refine r_aload_n (i := 0) hO rfl rfl dX7_nextWhole_36 ?_
        refine r_bipush hO bi_10 dX7_nextWhole_37 ?_
        refine r_aload_n (i := 0) hO rfl rfl dX7_nextWhole_39 ?_
        refine gX7_117 hO dX7_nextWhole_40 ?_
        refine r_imul hO dX7_nextWhole_43 ?_
        refine r_aload_n (i := 0) hO rfl rfl dX7_nextWhole_44 ?_
        refine r_aload_n (i := 0) hO rfl rfl dX7_nextWhole_45 ?_
        refine gX7_87 hO dX7_nextWhole_46 ?_
        refine k_X7_byteAt hO a_482 rfl ⟨rfl, rfl, Nat.le_refl _, Nat.le_refl _⟩ dX7_nextWhole_49 ?_
        intro r5 σ6
        refine r_iadd hO dX7_nextWhole_52 ?_
        refine r_bipush hO bi_48 dX7_nextWhole_53 ?_
        refine r_isub hO dX7_nextWhole_55 ?_
        refine pX7_117 hO dX7_nextWhole_56 ?_
        refine r_nmW fun σ7 => ?_
        exact r_jmp (b_X7_nextWhole_59 hO hR ih σ7) (lsub_c rfl lsub_n)
set_option maxRecDepth 20000 in
set_option maxHeartbeats 1000000 in
theorem b_X7_nextWhole {K : Kt}  (hO : Ok K cX7_nextWhole RX7 1 rm_X7_nextWhole) (hR : Rt K none)   (σ : Wd) : Cm K 1 (0, 0) (f_X7_nextWhole  σ) σ 0 [(0, .ref (K.G.A 102))] [] := by
  refine r_aload_n (i := 0) hO rfl rfl dX7_nextWhole_0 ?_
  refine r_iconst hO ci_0 dX7_nextWhole_1 ?_
  refine pX7_117 hO dX7_nextWhole_2 ?_
  refine r_nmW fun σ1 => ?_
  exact r_jmp (b_X7_nextWhole_5 hO hR FU σ1) (lsub_c rfl lsub_n)
theorem c_X7_nextWhole {l : Launch} {G : Gh}    (σ : Wd) : Con l G yX7_nextWhole cX7_nextWhole 1 none 1 22 [.ref (G.A 102)] σ (f_X7_nextWhole  σ) := Con.of (plainFor_of_name (by decide)) rfl (Nat.le_of_ble_eq_true rfl) (fun K hl hG hO hR => by subst hl; subst hG; exact b_X7_nextWhole hO hR   σ)
theorem cal_X7_nextWhole : CalV yX7_nextWhole cX7_nextWhole 1 none 0 := ⟨a_487, a_488, a_489, a_464, by decide, by decide, by decide +kernel⟩
theorem k_X7_nextWhole {K : Kt} {nL : Nat} {cs : Nat × Nat} {σ : Wd} {pc : Nat} {lv : List (Nat × Value)} {st : List Value} {cc : ByteArray} {own : String} {rm : Room} {index : Nat} {g : Int32 → Wd → Option (Int32 × Wd)}  (hO : Ok K cc own nL rm)  (hl : Cond.methodLink own index yX7_nextWhole ∈ gtb) (hcat : Nat.ble ((st.map fun v => v.category).sum) 8 = true) (hR : RoomOk rm cs 1 22 1) (d : decode cc pc = .ok (.invokevirtual index, 3)) (kk : ∀ (r : Int32) (σ : Wd), Cm K nL cs (g r σ) σ (pc + 3) lv st) : Cm K nL cs (bd (f_X7_nextWhole  σ) g) σ pc lv (.ref (K.G.A 102) :: st) := r_cVv hO (c_X7_nextWhole   σ) cal_X7_nextWhole hl rfl (by decide) ent_X7 rfl rfl hcat hR d kk
/-! OrderSplitModel.nextSign -/
def f_X7_nextSign_50    (σ : Wd) : Option (Int32 × Wd) := some (0, σ)
def f_X7_nextSign_28   (x1 : Int32) (x2 : Int32) (s1 : Int32) (σ : Wd) : Option (Int32 × Wd) := nmW (wi σ 102 30 s1) fun σ1 => nmW (wi σ1 102 32 x1) fun σ2 => if x2 = 0 then (f_X7_nextSign_50 σ2) else (nmW (wi σ2 102 29 ((σ2.1 102 29) + (1 : Int32))) fun σ3 => (f_X7_nextSign_50 σ3))
def f_X7_nextSign_17   (x1 : Int32) (s0 : Int32) (σ : Wd) : Option (Int32 × Wd) := if s0 = 0 then (f_X7_nextSign_28 x1 s0 (0 : Int32) σ) else (f_X7_nextSign_28 x1 s0 (4 : Int32) σ)
def f_X7_nextSign_12   (x1 : Int32) (σ : Wd) : Option (Int32 × Wd) := (f_X7_nextSign_17 x1 (1 : Int32) σ)
def f_X7_nextSign (a1 : Int32) (σ : Wd) : Option (Int32 × Wd) := if a1 = (59 : Int32) then (f_X7_nextSign_12 a1 σ) else (if a1 = (45 : Int32) then (f_X7_nextSign_12 a1 σ) else (f_X7_nextSign_17 a1 (0 : Int32) σ))
set_option maxRecDepth 20000 in
set_option maxHeartbeats 1000000 in
theorem b_X7_nextSign_50 {K : Kt}   (hO : Ok K cX7_nextSign RX7 3 rm_X7_nextSign) (hR : Rt K none)    (σ : Wd)  : Cm K 3 (0, 0) (f_X7_nextSign_50   σ) σ 50 [] [] := by
  exact r_vret hO hR dX7_nextSign_50
set_option maxRecDepth 20000 in
set_option maxHeartbeats 1000000 in
theorem b_X7_nextSign_28 {K : Kt}   (hO : Ok K cX7_nextSign RX7 3 rm_X7_nextSign) (hR : Rt K none)   (x1 : Int32) (x2 : Int32) (s1 : Int32) (σ : Wd)  : Cm K 3 (0, 0) (f_X7_nextSign_28  x1 x2 s1 σ) σ 28 [(0, .ref (K.G.A 102)), (1, .int x1), (2, .int x2)] [.int s1, .ref (K.G.A 102)] := by
  refine pX7_96 hO dX7_nextSign_28 ?_
  refine r_nmW fun σ1 => ?_
  refine r_aload_n (i := 0) hO rfl rfl dX7_nextSign_31 ?_
  refine r_iload_n (i := 1) hO rfl rfl dX7_nextSign_32 ?_
  refine pX7_117 hO dX7_nextSign_33 ?_
  refine r_nmW fun σ2 => ?_
  refine r_iload_n (i := 2) hO rfl rfl dX7_nextSign_36 ?_
  refine r_if_eq (tgt := 50) hO dX7_nextSign_37 (by decide) ?_ ?_
  · exact r_jmp (b_X7_nextSign_50 hO hR σ2) lsub_n
  · refine r_aload_n (i := 0) hO rfl rfl dX7_nextSign_40 ?_
    refine r_dup hO rfl dX7_nextSign_41 ?_
    refine gX7_87 hO dX7_nextSign_42 ?_
    refine r_iconst hO ci_1 dX7_nextSign_45 ?_
    refine r_iadd hO dX7_nextSign_46 ?_
    refine pX7_87 hO dX7_nextSign_47 ?_
    refine r_nmW fun σ3 => ?_
    exact r_jmp (b_X7_nextSign_50 hO hR σ3) lsub_n
set_option maxRecDepth 20000 in
set_option maxHeartbeats 1000000 in
theorem b_X7_nextSign_17 {K : Kt}   (hO : Ok K cX7_nextSign RX7 3 rm_X7_nextSign) (hR : Rt K none)   (x1 : Int32) (s0 : Int32) (σ : Wd)  : Cm K 3 (0, 0) (f_X7_nextSign_17  x1 s0 σ) σ 17 [(0, .ref (K.G.A 102)), (1, .int x1)] [.int s0] := by
  refine r_istore_n (i := 2) hO rfl rfl rfl dX7_nextSign_17 ?_
  refine r_aload_n (i := 0) hO rfl rfl dX7_nextSign_18 ?_
  refine r_iload_n (i := 2) hO rfl rfl dX7_nextSign_19 ?_
  refine r_if_eq (tgt := 27) hO dX7_nextSign_20 (by decide) ?_ ?_
  · refine r_iconst hO ci_0 dX7_nextSign_27 ?_
    exact r_jmp (b_X7_nextSign_28 hO hR x1 s0 (0 : Int32) σ) (lsub_c rfl (lsub_c rfl (lsub_c rfl lsub_n)))
  · refine r_iconst hO ci_4 dX7_nextSign_23 ?_
    refine r_goto (tgt := 28) hO dX7_nextSign_24 (by decide) ?_
    exact r_jmp (b_X7_nextSign_28 hO hR x1 s0 (4 : Int32) σ) (lsub_c rfl (lsub_c rfl (lsub_c rfl lsub_n)))
set_option maxRecDepth 20000 in
set_option maxHeartbeats 1000000 in
theorem b_X7_nextSign_12 {K : Kt}   (hO : Ok K cX7_nextSign RX7 3 rm_X7_nextSign) (hR : Rt K none)   (x1 : Int32) (σ : Wd)  : Cm K 3 (0, 0) (f_X7_nextSign_12  x1 σ) σ 12 [(0, .ref (K.G.A 102)), (1, .int x1)] [] := by
  refine r_iconst hO ci_1 dX7_nextSign_12 ?_
  refine r_goto (tgt := 17) hO dX7_nextSign_13 (by decide) ?_
  exact r_jmp (b_X7_nextSign_17 hO hR x1 (1 : Int32) σ) (lsub_c rfl (lsub_c rfl lsub_n))
set_option maxRecDepth 20000 in
set_option maxHeartbeats 1000000 in
theorem b_X7_nextSign {K : Kt}  (hO : Ok K cX7_nextSign RX7 3 rm_X7_nextSign) (hR : Rt K none)  (a1 : Int32) (σ : Wd) : Cm K 3 (0, 0) (f_X7_nextSign a1 σ) σ 0 [(0, .ref (K.G.A 102)), (1, .int a1)] [] := by
  refine r_iload_n (i := 1) hO rfl rfl dX7_nextSign_0 ?_
  refine r_bipush hO bi_59 dX7_nextSign_1 ?_
  refine r_icmp_eq (tgt := 12) hO dX7_nextSign_3 (by decide) ?_ ?_
  · exact r_jmp (b_X7_nextSign_12 hO hR a1 σ) (lsub_c rfl (lsub_c rfl lsub_n))
  · refine r_iload_n (i := 1) hO rfl rfl dX7_nextSign_6 ?_
    refine r_bipush hO bi_45 dX7_nextSign_7 ?_
    refine r_icmp_ne (tgt := 16) hO dX7_nextSign_9 (by decide) ?_ ?_
    · exact r_jmp (b_X7_nextSign_12 hO hR a1 σ) (lsub_c rfl (lsub_c rfl lsub_n))
    · refine r_iconst hO ci_0 dX7_nextSign_16 ?_
      exact r_jmp (b_X7_nextSign_17 hO hR a1 (0 : Int32) σ) (lsub_c rfl (lsub_c rfl lsub_n))
theorem c_X7_nextSign {l : Launch} {G : Gh}   (a1 : Int32) (σ : Wd) : Con l G yX7_nextSign cX7_nextSign 3 none 0 0 [.ref (G.A 102), .int a1] σ (f_X7_nextSign a1 σ) := Con.of (plainFor_of_name (by decide)) rfl (Nat.le_of_ble_eq_true rfl) (fun K hl hG hO hR => by subst hl; subst hG; exact b_X7_nextSign hO hR  a1 σ)
theorem cal_X7_nextSign : CalV yX7_nextSign cX7_nextSign 3 none 1 := ⟨a_490, a_491, a_492, a_464, by decide, by decide, by decide +kernel⟩
theorem k_X7_nextSign {K : Kt} {nL : Nat} {cs : Nat × Nat} {σ : Wd} {pc : Nat} {lv : List (Nat × Value)} {st : List Value} {cc : ByteArray} {own : String} {rm : Room} {index : Nat} {g : Int32 → Wd → Option (Int32 × Wd)} {a1 : Int32} (hO : Ok K cc own nL rm)  (hl : Cond.methodLink own index yX7_nextSign ∈ gtb) (hcat : Nat.ble ((st.map fun v => v.category).sum) 8 = true) (hR : RoomOk rm cs 0 0 3) (d : decode cc pc = .ok (.invokevirtual index, 3)) (kk : ∀ (r : Int32) (σ : Wd), Cm K nL cs (g r σ) σ (pc + 3) lv st) : Cm K nL cs (bd (f_X7_nextSign a1 σ) g) σ pc lv (.int a1 :: .ref (K.G.A 102) :: st) := r_cVv hO (c_X7_nextSign  a1 σ) cal_X7_nextSign hl rfl (by decide) ent_X7 rfl rfl hcat hR d kk
/-! OrderSplitModel.next -/
def f_X7_next_105    (σ : Wd) : Option (Int32 × Wd) := some (0, σ)
def f_X7_next_8   : Nat → Wd → Option (Int32 × Wd)
  | 0 => fun _ => none
  | n + 1 => fun  σ => bd (f_X7_byteAt (σ.1 102 29) σ) fun r1 σ2 => if r1 = (32 : Int32) then (nmW (wi σ2 102 29 ((σ2.1 102 29) + (1 : Int32))) fun σ3 => (f_X7_next_8 n σ3)) else (nmW (wi σ2 102 31 (σ2.1 102 29)) fun σ4 => bd (f_X7_byteAt (σ4.1 102 29) σ4) fun r5 σ6 => if r5 = (-1 : Int32) then (nmW (wi σ6 102 30 (1 : Int32)) fun σ7 => (f_X7_next_105 σ7)) else (bd (f_X7_in r5 (97 : Int32) (122 : Int32) σ6) fun r8 σ9 => if r8 = 0 then (bd (f_X7_in r5 (48 : Int32) (57 : Int32) σ9) fun r10 σ11 => if r10 = 0 then (bd (f_X7_nextSign r5 σ11) fun _ σ12 => (f_X7_next_105 σ12)) else (bd (f_X7_nextWhole σ11) fun _ σ13 => (f_X7_next_105 σ13))) else (bd (f_X7_nextWord σ9) fun _ σ14 => (f_X7_next_105 σ14))))
def f_X7_next  (σ : Wd) : Option (Int32 × Wd) := if (σ.1 102 33) ≤ 0 then (f_X7_next_8 FU σ) else (some (0, σ))
set_option maxRecDepth 20000 in
set_option maxHeartbeats 1000000 in
theorem b_X7_next_105 {K : Kt}   (hO : Ok K cX7_next RX7 2 rm_X7_next) (hR : Rt K none)    (σ : Wd)  : Cm K 2 (0, 0) (f_X7_next_105   σ) σ 105 [] [] := by
  exact r_vret hO hR dX7_next_105
set_option maxRecDepth 20000 in
set_option maxHeartbeats 1000000 in
theorem b_X7_next_8 {K : Kt}   (hO : Ok K cX7_next RX7 2 rm_X7_next) (hR : Rt K none)   : ∀ (n : Nat)  (σ : Wd) , Cm K 2 (0, 0) (f_X7_next_8  n  σ) σ 8 [(0, .ref (K.G.A 102))] [] := by
  intro n
  induction n with
  | zero => intro  σ ; exact r_none
  | succ n ih =>
    intro  σ 
    refine r_aload_n (i := 0) hO rfl rfl dX7_next_8 ?_
    refine r_aload_n (i := 0) hO rfl rfl dX7_next_9 ?_
    refine gX7_87 hO dX7_next_10 ?_
    refine k_X7_byteAt hO a_482 rfl ⟨rfl, rfl, Nat.le_refl _, Nat.le_refl _⟩ dX7_next_13 ?_
    intro r1 σ2
    refine r_bipush hO bi_32 dX7_next_16 ?_
    refine r_icmp_ne (tgt := 34) hO dX7_next_18 (by decide) ?_ ?_
    · refine r_aload_n (i := 0) hO rfl rfl dX7_next_21 ?_
      refine r_dup hO rfl dX7_next_22 ?_
      refine gX7_87 hO dX7_next_23 ?_
      refine r_iconst hO ci_1 dX7_next_26 ?_
      refine r_iadd hO dX7_next_27 ?_
      refine pX7_87 hO dX7_next_28 ?_
      refine r_nmW fun σ3 => ?_
      refine r_goto (tgt := 8) hO dX7_next_31 (by decide) ?_
      exact r_jmp (ih σ3) (lsub_c rfl lsub_n)
    · refine r_aload_n (i := 0) hO rfl rfl dX7_next_34 ?_
      refine r_aload_n (i := 0) hO rfl rfl dX7_next_35 ?_
      refine gX7_87 hO dX7_next_36 ?_
      refine pX7_93 hO dX7_next_39 ?_
      refine r_nmW fun σ4 => ?_
      refine r_aload_n (i := 0) hO rfl rfl dX7_next_42 ?_
      refine r_aload_n (i := 0) hO rfl rfl dX7_next_43 ?_
      refine gX7_87 hO dX7_next_44 ?_
      refine k_X7_byteAt hO a_482 rfl ⟨rfl, rfl, Nat.le_refl _, Nat.le_refl _⟩ dX7_next_47 ?_
      intro r5 σ6
      refine r_istore_n (i := 1) hO rfl rfl rfl dX7_next_50 ?_
      refine r_iload_n (i := 1) hO rfl rfl dX7_next_51 ?_
      refine r_iconst hO ci_m1 dX7_next_52 ?_
      refine r_icmp_ne (tgt := 64) hO dX7_next_53 (by decide) ?_ ?_
      · refine r_aload_n (i := 0) hO rfl rfl dX7_next_56 ?_
        refine r_iconst hO ci_1 dX7_next_57 ?_
        refine pX7_96 hO dX7_next_58 ?_
        refine r_nmW fun σ7 => ?_
        refine r_goto (tgt := 105) hO dX7_next_61 (by decide) ?_
        exact r_jmp (b_X7_next_105 hO hR σ7) lsub_n
      · refine r_iload_n (i := 1) hO rfl rfl dX7_next_64 ?_
        refine r_bipush hO bi_97 dX7_next_65 ?_
        refine r_bipush hO bi_122 dX7_next_67 ?_
        refine k_X7_in hO a_483 rfl ⟨rfl, rfl, Nat.le_refl _, Nat.le_refl _⟩ dX7_next_69 ?_
        intro r8 σ9
        refine r_if_eq (tgt := 82) hO dX7_next_72 (by decide) ?_ ?_
        · refine r_iload_n (i := 1) hO rfl rfl dX7_next_82 ?_
          refine r_bipush hO bi_48 dX7_next_83 ?_
          refine r_bipush hO bi_57 dX7_next_85 ?_
          refine k_X7_in hO a_483 rfl ⟨rfl, rfl, Nat.le_refl _, Nat.le_refl _⟩ dX7_next_87 ?_
          intro r10 σ11
          refine r_if_eq (tgt := 100) hO dX7_next_90 (by decide) ?_ ?_
          · refine r_aload_n (i := 0) hO rfl rfl dX7_next_100 ?_
            refine r_iload_n (i := 1) hO rfl rfl dX7_next_101 ?_
            refine k_X7_nextSign hO a_493 rfl ⟨rfl, rfl, Nat.le_refl _, Nat.le_refl _⟩ dX7_next_102 ?_
            intro _ σ12
            exact r_jmp (b_X7_next_105 hO hR σ12) lsub_n
          · refine r_aload_n (i := 0) hO rfl rfl dX7_next_93 ?_
            refine k_X7_nextWhole hO a_494 rfl ⟨rfl, rfl, Nat.le_refl _, Nat.le_refl _⟩ dX7_next_94 ?_
            intro _ σ13
            refine r_goto (tgt := 105) hO dX7_next_97 (by decide) ?_
            exact r_jmp (b_X7_next_105 hO hR σ13) lsub_n
        · refine r_aload_n (i := 0) hO rfl rfl dX7_next_75 ?_
          refine k_X7_nextWord hO a_495 rfl ⟨rfl, rfl, Nat.le_refl _, Nat.le_refl _⟩ dX7_next_76 ?_
          intro _ σ14
          refine r_goto (tgt := 105) hO dX7_next_79 (by decide) ?_
          exact r_jmp (b_X7_next_105 hO hR σ14) lsub_n
set_option maxRecDepth 20000 in
set_option maxHeartbeats 1000000 in
theorem b_X7_next {K : Kt}  (hO : Ok K cX7_next RX7 2 rm_X7_next) (hR : Rt K none)   (σ : Wd) : Cm K 2 (0, 0) (f_X7_next  σ) σ 0 [(0, .ref (K.G.A 102))] [] := by
  refine r_aload_n (i := 0) hO rfl rfl dX7_next_0 ?_
  refine gX7_84 hO dX7_next_1 ?_
  refine r_if_le (tgt := 8) hO dX7_next_4 (by decide) ?_ ?_
  · exact r_jmp (b_X7_next_8 hO hR FU σ) (lsub_c rfl lsub_n)
  · exact r_vret hO hR dX7_next_7
theorem c_X7_next {l : Launch} {G : Gh}    (σ : Wd) : Con l G yX7_next cX7_next 2 none 2 42 [.ref (G.A 102)] σ (f_X7_next  σ) := Con.of (plainFor_of_name (by decide)) rfl (Nat.le_of_ble_eq_true rfl) (fun K hl hG hO hR => by subst hl; subst hG; exact b_X7_next hO hR   σ)
theorem cal_X7_next : CalV yX7_next cX7_next 2 none 0 := ⟨a_496, a_497, a_498, a_464, by decide, by decide, by decide +kernel⟩
theorem k_X7_next {K : Kt} {nL : Nat} {cs : Nat × Nat} {σ : Wd} {pc : Nat} {lv : List (Nat × Value)} {st : List Value} {cc : ByteArray} {own : String} {rm : Room} {index : Nat} {g : Int32 → Wd → Option (Int32 × Wd)}  (hO : Ok K cc own nL rm)  (hl : Cond.methodLink own index yX7_next ∈ gtb) (hcat : Nat.ble ((st.map fun v => v.category).sum) 8 = true) (hR : RoomOk rm cs 2 42 2) (d : decode cc pc = .ok (.invokevirtual index, 3)) (kk : ∀ (r : Int32) (σ : Wd), Cm K nL cs (g r σ) σ (pc + 3) lv st) : Cm K nL cs (bd (f_X7_next  σ) g) σ pc lv (.ref (K.G.A 102) :: st) := r_cVv hO (c_X7_next   σ) cal_X7_next hl rfl (by decide) ent_X7 rfl rfl hcat hR d kk
/-! OrderSplitModel.flaw -/
def f_X7_flaw_12    (σ : Wd) : Option (Int32 × Wd) := nmW (wi σ 102 30 (0 : Int32)) fun σ1 => some (0, σ1)
def f_X7_flaw (a1 : Int32) (σ : Wd) : Option (Int32 × Wd) := if (σ.1 102 33) = 0 then (nmW (wi σ 102 33 a1) fun σ1 => (f_X7_flaw_12 σ1)) else (f_X7_flaw_12 σ)
set_option maxRecDepth 20000 in
set_option maxHeartbeats 1000000 in
theorem b_X7_flaw_12 {K : Kt}   (hO : Ok K cX7_flaw RX7 2 rm_X7_flaw) (hR : Rt K none)    (σ : Wd)  : Cm K 2 (0, 0) (f_X7_flaw_12   σ) σ 12 [(0, .ref (K.G.A 102))] [] := by
  refine r_aload_n (i := 0) hO rfl rfl dX7_flaw_12 ?_
  refine r_iconst hO ci_0 dX7_flaw_13 ?_
  refine pX7_96 hO dX7_flaw_14 ?_
  refine r_nmW fun σ1 => ?_
  exact r_vret hO hR dX7_flaw_17
set_option maxRecDepth 20000 in
set_option maxHeartbeats 1000000 in
theorem b_X7_flaw {K : Kt}  (hO : Ok K cX7_flaw RX7 2 rm_X7_flaw) (hR : Rt K none)  (a1 : Int32) (σ : Wd) : Cm K 2 (0, 0) (f_X7_flaw a1 σ) σ 0 [(0, .ref (K.G.A 102)), (1, .int a1)] [] := by
  refine r_aload_n (i := 0) hO rfl rfl dX7_flaw_0 ?_
  refine gX7_84 hO dX7_flaw_1 ?_
  refine r_if_ne (tgt := 12) hO dX7_flaw_4 (by decide) ?_ ?_
  · refine r_aload_n (i := 0) hO rfl rfl dX7_flaw_7 ?_
    refine r_iload_n (i := 1) hO rfl rfl dX7_flaw_8 ?_
    refine pX7_84 hO dX7_flaw_9 ?_
    refine r_nmW fun σ1 => ?_
    exact r_jmp (b_X7_flaw_12 hO hR σ1) (lsub_c rfl lsub_n)
  · exact r_jmp (b_X7_flaw_12 hO hR σ) (lsub_c rfl lsub_n)
theorem c_X7_flaw {l : Launch} {G : Gh}   (a1 : Int32) (σ : Wd) : Con l G yX7_flaw cX7_flaw 2 none 0 0 [.ref (G.A 102), .int a1] σ (f_X7_flaw a1 σ) := Con.of (plainFor_of_name (by decide)) rfl (Nat.le_of_ble_eq_true rfl) (fun K hl hG hO hR => by subst hl; subst hG; exact b_X7_flaw hO hR  a1 σ)
theorem cal_X7_flaw : CalV yX7_flaw cX7_flaw 2 none 1 := ⟨a_499, a_500, a_501, a_464, by decide, by decide, by decide +kernel⟩
theorem k_X7_flaw {K : Kt} {nL : Nat} {cs : Nat × Nat} {σ : Wd} {pc : Nat} {lv : List (Nat × Value)} {st : List Value} {cc : ByteArray} {own : String} {rm : Room} {index : Nat} {g : Int32 → Wd → Option (Int32 × Wd)} {a1 : Int32} (hO : Ok K cc own nL rm)  (hl : Cond.methodLink own index yX7_flaw ∈ gtb) (hcat : Nat.ble ((st.map fun v => v.category).sum) 8 = true) (hR : RoomOk rm cs 0 0 2) (d : decode cc pc = .ok (.invokevirtual index, 3)) (kk : ∀ (r : Int32) (σ : Wd), Cm K nL cs (g r σ) σ (pc + 3) lv st) : Cm K nL cs (bd (f_X7_flaw a1 σ) g) σ pc lv (.int a1 :: .ref (K.G.A 102) :: st) := r_cVv hO (c_X7_flaw  a1 σ) cal_X7_flaw hl rfl (by decide) ent_X7 rfl rfl hcat hR d kk
/-! OrderSplitModel.isSign -/
def f_X7_isSign_21   (s0 : Int32) (σ : Wd) : Option (Int32 × Wd) := gd (isb s0) (some (s0, σ))
def f_X7_isSign_20    (σ : Wd) : Option (Int32 × Wd) := (f_X7_isSign_21 (0 : Int32) σ)
def f_X7_isSign (a1 : Int32) (σ : Wd) : Option (Int32 × Wd) := if (σ.1 102 30) = (4 : Int32) then (if (σ.1 102 32) = a1 then (f_X7_isSign_21 (1 : Int32) σ) else (f_X7_isSign_20 σ)) else (f_X7_isSign_20 σ)
set_option maxRecDepth 20000 in
set_option maxHeartbeats 1000000 in
theorem b_X7_isSign_21 {K : Kt}   (hO : Ok K cX7_isSign RX7 2 rm_X7_isSign) (hR : Rt K (some .boolean))   (s0 : Int32) (σ : Wd)  : Cm K 2 (0, 0) (f_X7_isSign_21  s0 σ) σ 21 [] [.int s0] := by
  exact r_zret hO hR dX7_isSign_21
set_option maxRecDepth 20000 in
set_option maxHeartbeats 1000000 in
theorem b_X7_isSign_20 {K : Kt}   (hO : Ok K cX7_isSign RX7 2 rm_X7_isSign) (hR : Rt K (some .boolean))    (σ : Wd)  : Cm K 2 (0, 0) (f_X7_isSign_20   σ) σ 20 [] [] := by
  refine r_iconst hO ci_0 dX7_isSign_20 ?_
  exact r_jmp (b_X7_isSign_21 hO hR (0 : Int32) σ) lsub_n
set_option maxRecDepth 20000 in
set_option maxHeartbeats 1000000 in
theorem b_X7_isSign {K : Kt}  (hO : Ok K cX7_isSign RX7 2 rm_X7_isSign) (hR : Rt K (some .boolean))  (a1 : Int32) (σ : Wd) : Cm K 2 (0, 0) (f_X7_isSign a1 σ) σ 0 [(0, .ref (K.G.A 102)), (1, .int a1)] [] := by
  refine r_aload_n (i := 0) hO rfl rfl dX7_isSign_0 ?_
  refine gX7_96 hO dX7_isSign_1 ?_
  refine r_iconst hO ci_4 dX7_isSign_4 ?_
  refine r_icmp_ne (tgt := 20) hO dX7_isSign_5 (by decide) ?_ ?_
  · refine r_aload_n (i := 0) hO rfl rfl dX7_isSign_8 ?_
    refine gX7_117 hO dX7_isSign_9 ?_
    refine r_iload_n (i := 1) hO rfl rfl dX7_isSign_12 ?_
    refine r_icmp_ne (tgt := 20) hO dX7_isSign_13 (by decide) ?_ ?_
    · refine r_iconst hO ci_1 dX7_isSign_16 ?_
      refine r_goto (tgt := 21) hO dX7_isSign_17 (by decide) ?_
      exact r_jmp (b_X7_isSign_21 hO hR (1 : Int32) σ) lsub_n
    · exact r_jmp (b_X7_isSign_20 hO hR σ) lsub_n
  · exact r_jmp (b_X7_isSign_20 hO hR σ) lsub_n
theorem c_X7_isSign {l : Launch} {G : Gh}   (a1 : Int32) (σ : Wd) : Con l G yX7_isSign cX7_isSign 2 (some .boolean) 0 0 [.ref (G.A 102), .int a1] σ (f_X7_isSign a1 σ) := Con.of (plainFor_of_name (by decide)) rfl (Nat.le_of_ble_eq_true rfl) (fun K hl hG hO hR => by subst hl; subst hG; exact b_X7_isSign hO hR  a1 σ)
theorem cal_X7_isSign : CalV yX7_isSign cX7_isSign 2 (some .boolean) 1 := ⟨a_502, a_503, a_504, a_464, by decide, by decide, by decide +kernel⟩
theorem k_X7_isSign {K : Kt} {nL : Nat} {cs : Nat × Nat} {σ : Wd} {pc : Nat} {lv : List (Nat × Value)} {st : List Value} {cc : ByteArray} {own : String} {rm : Room} {index : Nat} {g : Int32 → Wd → Option (Int32 × Wd)} {a1 : Int32} (hO : Ok K cc own nL rm)  (hl : Cond.methodLink own index yX7_isSign ∈ gtb) (hcat : Nat.ble ((st.map fun v => v.category).sum) 8 = true) (hR : RoomOk rm cs 0 0 2) (d : decode cc pc = .ok (.invokevirtual index, 3)) (kk : ∀ (r : Int32) (σ : Wd), Cm K nL cs (g r σ) σ (pc + 3) lv (.int r :: st)) : Cm K nL cs (bd (f_X7_isSign a1 σ) g) σ pc lv (.int a1 :: .ref (K.G.A 102) :: st) := r_cVi hO (c_X7_isSign  a1 σ) cal_X7_isSign hl rfl (by decide) ent_X7 rfl rfl hcat hR d kk
/-! OrderSplitModel.isWord -/
def f_X7_isWord_55 (w1 : Nat)  (s0 : Int32) (σ : Wd) : Option (Int32 × Wd) := gd (isb s0) (some (s0, σ))
def f_X7_isWord_54 (w1 : Nat)   (σ : Wd) : Option (Int32 × Wd) := (f_X7_isWord_55 w1 (0 : Int32) σ)
def f_X7_isWord_5 (w1 : Nat)  : Nat → Int64 → Int32 → Wd → Option (Int32 × Wd)
  | 0 => fun _ _ _ => none
  | n + 1 => fun x2 x4 σ => if (nI (txL.getD w1 0)) ≤ x4 then (if (σ.1 102 30) = (2 : Int32) then (if (lg_cmp (σ.2.1 102 34) x2) = 0 then (f_X7_isWord_55 w1 (1 : Int32) σ) else (f_X7_isWord_54 w1 σ)) else (f_X7_isWord_54 w1 σ)) else (gd (inb x4 (txL.getD w1 0)) ((f_X7_isWord_5 w1 n ((x2 <<< ((8 : Int32).toInt64 &&& 63)) ||| ((tch w1 x4).toInt64)) (x4 + (1 : Int32)) σ)))
def f_X7_isWord (w1 : Nat) (σ : Wd) : Option (Int32 × Wd) := (f_X7_isWord_5 w1 FU 0 (0 : Int32) σ)
set_option maxRecDepth 20000 in
set_option maxHeartbeats 1000000 in
theorem b_X7_isWord_55 {K : Kt} {w1 : Nat}  (hO : Ok K cX7_isWord RX7 5 rm_X7_isWord) (hR : Rt K (some .boolean)) (hw1 : Nat.blt w1 13 = true)  (s0 : Int32) (σ : Wd)  : Cm K 5 (0, 0) (f_X7_isWord_55 w1 s0 σ) σ 55 [] [.int s0] := by
  exact r_zret hO hR dX7_isWord_55
set_option maxRecDepth 20000 in
set_option maxHeartbeats 1000000 in
theorem b_X7_isWord_54 {K : Kt} {w1 : Nat}  (hO : Ok K cX7_isWord RX7 5 rm_X7_isWord) (hR : Rt K (some .boolean)) (hw1 : Nat.blt w1 13 = true)   (σ : Wd)  : Cm K 5 (0, 0) (f_X7_isWord_54 w1  σ) σ 54 [] [] := by
  refine r_iconst hO ci_0 dX7_isWord_54 ?_
  exact r_jmp (b_X7_isWord_55 hO hR hw1 (0 : Int32) σ) lsub_n
set_option maxRecDepth 20000 in
set_option maxHeartbeats 1000000 in
theorem b_X7_isWord_5 {K : Kt} {w1 : Nat}  (hO : Ok K cX7_isWord RX7 5 rm_X7_isWord) (hR : Rt K (some .boolean)) (hw1 : Nat.blt w1 13 = true)  : ∀ (n : Nat) (x2 : Int64) (x4 : Int32) (σ : Wd) , Cm K 5 (0, 0) (f_X7_isWord_5 w1 n x2 x4 σ) σ 5 [(0, .ref (K.G.A 102)), (1, .ref (K.G.aK w1)), (2, .long (x2)), (4, .int x4)] [] := by
  intro n
  induction n with
  | zero => intro x2 x4 σ ; exact r_none
  | succ n ih =>
    intro x2 x4 σ 
    refine r_iload hO (d := dX7_isWord_5) rfl ?_
    refine r_aload_n (i := 1) hO rfl rfl dX7_isWord_7 ?_
    refine k_str_length hO hw1 a_505 rfl ⟨rfl, rfl, Nat.le_refl _, Nat.le_refl _⟩ dX7_isWord_8 ?_
    refine r_icmp_ge (tgt := 33) hO dX7_isWord_11 (by decide) ?_ ?_
    · refine r_aload_n (i := 0) hO rfl rfl dX7_isWord_33 ?_
      refine gX7_96 hO dX7_isWord_34 ?_
      refine r_iconst hO ci_2 dX7_isWord_37 ?_
      refine r_icmp_ne (tgt := 54) hO dX7_isWord_38 (by decide) ?_ ?_
      · refine r_aload_n (i := 0) hO rfl rfl dX7_isWord_41 ?_
        refine gX7_113 hO dX7_isWord_42 ?_
        refine r_lload_n (i := 2) hO rfl rfl dX7_isWord_45 ?_
        refine r_lcmp hO dX7_isWord_46 ?_
        refine r_if_ne (tgt := 54) hO dX7_isWord_47 (by decide) ?_ ?_
        · refine r_iconst hO ci_1 dX7_isWord_50 ?_
          refine r_goto (tgt := 55) hO dX7_isWord_51 (by decide) ?_
          exact r_jmp (b_X7_isWord_55 hO hR hw1 (1 : Int32) σ) lsub_n
        · exact r_jmp (b_X7_isWord_54 hO hR hw1 σ) lsub_n
      · exact r_jmp (b_X7_isWord_54 hO hR hw1 σ) lsub_n
    · refine r_lload_n (i := 2) hO rfl rfl dX7_isWord_14 ?_
      refine r_bipush hO bi_8 dX7_isWord_15 ?_
      refine r_lshl hO dX7_isWord_17 ?_
      refine r_aload_n (i := 1) hO rfl rfl dX7_isWord_18 ?_
      refine r_iload hO (d := dX7_isWord_19) rfl ?_
      refine k_str_charAt hO hw1 a_506 rfl ⟨rfl, rfl, Nat.le_refl _, Nat.le_refl _⟩ dX7_isWord_21 ?_
      refine r_i2l hO dX7_isWord_24 ?_
      refine r_lor hO dX7_isWord_25 ?_
      refine r_lstore_n (i := 2) hO rfl rfl rfl dX7_isWord_26 ?_
      refine r_iinc hO rfl ci_1 rfl rfl dX7_isWord_27 ?_
      refine r_goto (tgt := 5) hO dX7_isWord_30 (by decide) ?_
      exact r_jmp (ih ((x2 <<< ((8 : Int32).toInt64 &&& 63)) ||| ((tch w1 x4).toInt64)) (x4 + (1 : Int32)) σ) (lsub_c rfl (lsub_c rfl (lsub_c rfl (lsub_c rfl lsub_n))))
set_option maxRecDepth 20000 in
set_option maxHeartbeats 1000000 in
theorem b_X7_isWord {K : Kt} {w1 : Nat} (hO : Ok K cX7_isWord RX7 5 rm_X7_isWord) (hR : Rt K (some .boolean)) (hw1 : Nat.blt w1 13 = true)  (σ : Wd) : Cm K 5 (0, 0) (f_X7_isWord w1 σ) σ 0 [(0, .ref (K.G.A 102)), (1, .ref (K.G.aK w1))] [] := by
  refine r_lconst (v := 0) hO rfl dX7_isWord_0 ?_
  refine r_lstore_n (i := 2) hO rfl rfl rfl dX7_isWord_1 ?_
  refine r_iconst hO ci_0 dX7_isWord_2 ?_
  refine r_istore hO rfl rfl dX7_isWord_3 ?_
  exact r_jmp (b_X7_isWord_5 hO hR hw1 FU 0 (0 : Int32) σ) (lsub_c rfl (lsub_c rfl (lsub_c rfl (lsub_c rfl lsub_n))))
theorem c_X7_isWord {l : Launch} {G : Gh} {w1 : Nat} (hw1 : Nat.blt w1 13 = true)  (σ : Wd) : Con l G yX7_isWord cX7_isWord 5 (some .boolean) 5 106 [.ref (G.A 102), .ref (G.aK w1)] σ (f_X7_isWord w1 σ) := Con.of (plainFor_of_name (by decide)) rfl (Nat.le_of_ble_eq_true rfl) (fun K hl hG hO hR => by subst hl; subst hG; exact b_X7_isWord hO hR hw1  σ)
theorem cal_X7_isWord : CalV yX7_isWord cX7_isWord 5 (some .boolean) 1 := ⟨a_507, a_508, a_509, a_464, by decide, by decide, by decide +kernel⟩
theorem k_X7_isWord {K : Kt} {nL : Nat} {cs : Nat × Nat} {σ : Wd} {pc : Nat} {lv : List (Nat × Value)} {st : List Value} {cc : ByteArray} {own : String} {rm : Room} {index : Nat} {g : Int32 → Wd → Option (Int32 × Wd)} {w1 : Nat} (hO : Ok K cc own nL rm) (hw1 : Nat.blt w1 13 = true) (hl : Cond.methodLink own index yX7_isWord ∈ gtb) (hcat : Nat.ble ((st.map fun v => v.category).sum) 8 = true) (hR : RoomOk rm cs 5 106 5) (d : decode cc pc = .ok (.invokevirtual index, 3)) (kk : ∀ (r : Int32) (σ : Wd), Cm K nL cs (g r σ) σ (pc + 3) lv (.int r :: st)) : Cm K nL cs (bd (f_X7_isWord w1 σ) g) σ pc lv (.ref (K.G.aK w1) :: .ref (K.G.A 102) :: st) := r_cVi hO (c_X7_isWord hw1  σ) cal_X7_isWord hl rfl (by decide) ent_X7 rfl rfl hcat hR d kk
/-! OrderSplitModel.readWhole -/
def f_X7_readWhole_54   (s0 : Int32) (σ : Wd) : Option (Int32 × Wd) := some (s0, σ)
def f_X7_readWhole_33   (x1 : Int32) (σ : Wd) : Option (Int32 × Wd) := bd (f_X7_next σ) fun _ σ1 => if (σ1.1 102 33) ≤ 0 then (f_X7_readWhole_54 (σ.1 102 32) σ1) else (f_X7_readWhole_54 x1 σ1)
def f_X7_readWhole (a1 : Int32) (a2 : Int32) (σ : Wd) : Option (Int32 × Wd) := if (σ.1 102 30) = (3 : Int32) then (bd (f_X7_in (σ.1 102 32) a1 a2 σ) fun r1 σ2 => if r1 = 0 then (bd (f_X7_flaw (4 : Int32) σ2) fun _ σ3 => (f_X7_readWhole_33 a1 σ3)) else (f_X7_readWhole_33 a1 σ2)) else (bd (f_X7_flaw (1 : Int32) σ) fun _ σ4 => (f_X7_readWhole_33 a1 σ4))
set_option maxRecDepth 20000 in
set_option maxHeartbeats 1000000 in
theorem b_X7_readWhole_54 {K : Kt}   (hO : Ok K cX7_readWhole RX7 4 rm_X7_readWhole) (hR : Rt K (some .int))   (s0 : Int32) (σ : Wd)  : Cm K 4 (0, 0) (f_X7_readWhole_54  s0 σ) σ 54 [] [.int s0] := by
  exact r_iret hO hR dX7_readWhole_54
set_option maxRecDepth 20000 in
set_option maxHeartbeats 1000000 in
theorem b_X7_readWhole_33 {K : Kt}   (hO : Ok K cX7_readWhole RX7 4 rm_X7_readWhole) (hR : Rt K (some .int))   (x1 : Int32) (σ : Wd)  : Cm K 4 (0, 0) (f_X7_readWhole_33  x1 σ) σ 33 [(0, .ref (K.G.A 102)), (1, .int x1)] [] := by
  refine r_aload_n (i := 0) hO rfl rfl dX7_readWhole_33 ?_
  refine gX7_117 hO dX7_readWhole_34 ?_
  refine r_istore_n (i := 3) hO rfl rfl rfl dX7_readWhole_37 ?_
  refine r_aload_n (i := 0) hO rfl rfl dX7_readWhole_38 ?_
  refine k_X7_next hO a_511 rfl ⟨rfl, rfl, Nat.le_refl _, Nat.le_refl _⟩ dX7_readWhole_39 ?_
  intro _ σ1
  refine r_aload_n (i := 0) hO rfl rfl dX7_readWhole_42 ?_
  refine gX7_84 hO dX7_readWhole_43 ?_
  refine r_if_le (tgt := 53) hO dX7_readWhole_46 (by decide) ?_ ?_
  · refine r_iload_n (i := 3) hO rfl rfl dX7_readWhole_53 ?_
    exact r_jmp (b_X7_readWhole_54 hO hR (σ.1 102 32) σ1) lsub_n
  · refine r_iload_n (i := 1) hO rfl rfl dX7_readWhole_49 ?_
    refine r_goto (tgt := 54) hO dX7_readWhole_50 (by decide) ?_
    exact r_jmp (b_X7_readWhole_54 hO hR x1 σ1) lsub_n
set_option maxRecDepth 20000 in
set_option maxHeartbeats 1000000 in
theorem b_X7_readWhole {K : Kt}  (hO : Ok K cX7_readWhole RX7 4 rm_X7_readWhole) (hR : Rt K (some .int))  (a1 : Int32) (a2 : Int32) (σ : Wd) : Cm K 4 (0, 0) (f_X7_readWhole a1 a2 σ) σ 0 [(0, .ref (K.G.A 102)), (1, .int a1), (2, .int a2)] [] := by
  refine r_aload_n (i := 0) hO rfl rfl dX7_readWhole_0 ?_
  refine gX7_96 hO dX7_readWhole_1 ?_
  refine r_iconst hO ci_3 dX7_readWhole_4 ?_
  refine r_icmp_eq (tgt := 16) hO dX7_readWhole_5 (by decide) ?_ ?_
  · refine r_aload_n (i := 0) hO rfl rfl dX7_readWhole_16 ?_
    refine gX7_117 hO dX7_readWhole_17 ?_
    refine r_iload_n (i := 1) hO rfl rfl dX7_readWhole_20 ?_
    refine r_iload_n (i := 2) hO rfl rfl dX7_readWhole_21 ?_
    refine k_X7_in hO a_483 rfl ⟨rfl, rfl, Nat.le_refl _, Nat.le_refl _⟩ dX7_readWhole_22 ?_
    intro r1 σ2
    refine r_if_ne (tgt := 33) hO dX7_readWhole_25 (by decide) ?_ ?_
    · refine r_aload_n (i := 0) hO rfl rfl dX7_readWhole_28 ?_
      refine r_iconst hO ci_4 dX7_readWhole_29 ?_
      refine k_X7_flaw hO a_510 rfl ⟨rfl, rfl, Nat.le_refl _, Nat.le_refl _⟩ dX7_readWhole_30 ?_
      intro _ σ3
      exact r_jmp (b_X7_readWhole_33 hO hR a1 σ3) (lsub_c rfl (lsub_c rfl lsub_n))
    · exact r_jmp (b_X7_readWhole_33 hO hR a1 σ2) (lsub_c rfl (lsub_c rfl lsub_n))
  · refine r_aload_n (i := 0) hO rfl rfl dX7_readWhole_8 ?_
    refine r_iconst hO ci_1 dX7_readWhole_9 ?_
    refine k_X7_flaw hO a_510 rfl ⟨rfl, rfl, Nat.le_refl _, Nat.le_refl _⟩ dX7_readWhole_10 ?_
    intro _ σ4
    refine r_goto (tgt := 33) hO dX7_readWhole_13 (by decide) ?_
    exact r_jmp (b_X7_readWhole_33 hO hR a1 σ4) (lsub_c rfl (lsub_c rfl lsub_n))
theorem c_X7_readWhole {l : Launch} {G : Gh}   (a1 : Int32) (a2 : Int32) (σ : Wd) : Con l G yX7_readWhole cX7_readWhole 4 (some .int) 3 63 [.ref (G.A 102), .int a1, .int a2] σ (f_X7_readWhole a1 a2 σ) := Con.of (plainFor_of_name (by decide)) rfl (Nat.le_of_ble_eq_true rfl) (fun K hl hG hO hR => by subst hl; subst hG; exact b_X7_readWhole hO hR  a1 a2 σ)
theorem cal_X7_readWhole : CalV yX7_readWhole cX7_readWhole 4 (some .int) 2 := ⟨a_512, a_513, a_514, a_464, by decide, by decide, by decide +kernel⟩
theorem k_X7_readWhole {K : Kt} {nL : Nat} {cs : Nat × Nat} {σ : Wd} {pc : Nat} {lv : List (Nat × Value)} {st : List Value} {cc : ByteArray} {own : String} {rm : Room} {index : Nat} {g : Int32 → Wd → Option (Int32 × Wd)} {a1 : Int32} {a2 : Int32} (hO : Ok K cc own nL rm)  (hl : Cond.methodLink own index yX7_readWhole ∈ gtb) (hcat : Nat.ble ((st.map fun v => v.category).sum) 8 = true) (hR : RoomOk rm cs 3 63 4) (d : decode cc pc = .ok (.invokevirtual index, 3)) (kk : ∀ (r : Int32) (σ : Wd), Cm K nL cs (g r σ) σ (pc + 3) lv (.int r :: st)) : Cm K nL cs (bd (f_X7_readWhole a1 a2 σ) g) σ pc lv (.int a2 :: .int a1 :: .ref (K.G.A 102) :: st) := r_cVi hO (c_X7_readWhole  a1 a2 σ) cal_X7_readWhole hl rfl (by decide) ent_X7 rfl rfl hcat hR d kk
/-! OrderSplitModel.readPart -/
def f_X7_readPart_13 (w1 : Nat)  (x2 : Int32) (x3 : Int32) (σ : Wd) : Option (Int32 × Wd) := bd (f_X7_next σ) fun _ σ1 => bd (f_X7_readWhole x2 x3 σ1) fun r2 σ3 => some (r2, σ3)
def f_X7_readPart (w1 : Nat) (a2 : Int32) (a3 : Int32) (σ : Wd) : Option (Int32 × Wd) := bd (f_X7_isWord w1 σ) fun r1 σ2 => if r1 = 0 then (bd (f_X7_flaw (1 : Int32) σ2) fun _ σ3 => (f_X7_readPart_13 w1 a2 a3 σ3)) else (f_X7_readPart_13 w1 a2 a3 σ2)
set_option maxRecDepth 20000 in
set_option maxHeartbeats 1000000 in
theorem b_X7_readPart_13 {K : Kt} {w1 : Nat}  (hO : Ok K cX7_readPart RX7 4 rm_X7_readPart) (hR : Rt K (some .int)) (hw1 : Nat.blt w1 13 = true)  (x2 : Int32) (x3 : Int32) (σ : Wd)  : Cm K 4 (0, 0) (f_X7_readPart_13 w1 x2 x3 σ) σ 13 [(0, .ref (K.G.A 102)), (2, .int x2), (3, .int x3)] [] := by
  refine r_aload_n (i := 0) hO rfl rfl dX7_readPart_13 ?_
  refine k_X7_next hO a_511 rfl ⟨rfl, rfl, Nat.le_refl _, Nat.le_refl _⟩ dX7_readPart_14 ?_
  intro _ σ1
  refine r_aload_n (i := 0) hO rfl rfl dX7_readPart_17 ?_
  refine r_iload_n (i := 2) hO rfl rfl dX7_readPart_18 ?_
  refine r_iload_n (i := 3) hO rfl rfl dX7_readPart_19 ?_
  refine k_X7_readWhole hO a_516 rfl ⟨rfl, rfl, Nat.le_refl _, Nat.le_refl _⟩ dX7_readPart_20 ?_
  intro r2 σ3
  exact r_iret hO hR dX7_readPart_23
set_option maxRecDepth 20000 in
set_option maxHeartbeats 1000000 in
theorem b_X7_readPart {K : Kt} {w1 : Nat} (hO : Ok K cX7_readPart RX7 4 rm_X7_readPart) (hR : Rt K (some .int)) (hw1 : Nat.blt w1 13 = true) (a2 : Int32) (a3 : Int32) (σ : Wd) : Cm K 4 (0, 0) (f_X7_readPart w1 a2 a3 σ) σ 0 [(0, .ref (K.G.A 102)), (1, .ref (K.G.aK w1)), (2, .int a2), (3, .int a3)] [] := by
  refine r_aload_n (i := 0) hO rfl rfl dX7_readPart_0 ?_
  refine r_aload_n (i := 1) hO rfl rfl dX7_readPart_1 ?_
  refine k_X7_isWord hO hw1 a_515 rfl ⟨rfl, rfl, Nat.le_refl _, Nat.le_refl _⟩ dX7_readPart_2 ?_
  intro r1 σ2
  refine r_if_ne (tgt := 13) hO dX7_readPart_5 (by decide) ?_ ?_
  · refine r_aload_n (i := 0) hO rfl rfl dX7_readPart_8 ?_
    refine r_iconst hO ci_1 dX7_readPart_9 ?_
    refine k_X7_flaw hO a_510 rfl ⟨rfl, rfl, Nat.le_refl _, Nat.le_refl _⟩ dX7_readPart_10 ?_
    intro _ σ3
    exact r_jmp (b_X7_readPart_13 hO hR hw1 a2 a3 σ3) (lsub_c rfl (lsub_c rfl (lsub_c rfl lsub_n)))
  · exact r_jmp (b_X7_readPart_13 hO hR hw1 a2 a3 σ2) (lsub_c rfl (lsub_c rfl (lsub_c rfl lsub_n)))
theorem c_X7_readPart {l : Launch} {G : Gh} {w1 : Nat} (hw1 : Nat.blt w1 13 = true) (a2 : Int32) (a3 : Int32) (σ : Wd) : Con l G yX7_readPart cX7_readPart 4 (some .int) 6 130 [.ref (G.A 102), .ref (G.aK w1), .int a2, .int a3] σ (f_X7_readPart w1 a2 a3 σ) := Con.of (plainFor_of_name (by decide)) rfl (Nat.le_of_ble_eq_true rfl) (fun K hl hG hO hR => by subst hl; subst hG; exact b_X7_readPart hO hR hw1 a2 a3 σ)
theorem cal_X7_readPart : CalV yX7_readPart cX7_readPart 4 (some .int) 3 := ⟨a_517, a_518, a_519, a_464, by decide, by decide, by decide +kernel⟩
theorem k_X7_readPart {K : Kt} {nL : Nat} {cs : Nat × Nat} {σ : Wd} {pc : Nat} {lv : List (Nat × Value)} {st : List Value} {cc : ByteArray} {own : String} {rm : Room} {index : Nat} {g : Int32 → Wd → Option (Int32 × Wd)} {w1 : Nat} {a2 : Int32} {a3 : Int32} (hO : Ok K cc own nL rm) (hw1 : Nat.blt w1 13 = true) (hl : Cond.methodLink own index yX7_readPart ∈ gtb) (hcat : Nat.ble ((st.map fun v => v.category).sum) 8 = true) (hR : RoomOk rm cs 6 130 4) (d : decode cc pc = .ok (.invokevirtual index, 3)) (kk : ∀ (r : Int32) (σ : Wd), Cm K nL cs (g r σ) σ (pc + 3) lv (.int r :: st)) : Cm K nL cs (bd (f_X7_readPart w1 a2 a3 σ) g) σ pc lv (.int a3 :: .int a2 :: .ref (K.G.aK w1) :: .ref (K.G.A 102) :: st) := r_cVi hO (c_X7_readPart hw1 a2 a3 σ) cal_X7_readPart hl rfl (by decide) ent_X7 rfl rfl hcat hR d kk
/-! OrderSplitModel.isName -/
def f_X7_isName_49   (s0 : Int32) (σ : Wd) : Option (Int32 × Wd) := gd (isb s0) (some (s0, σ))
def f_X7_isName_48    (σ : Wd) : Option (Int32 × Wd) := (f_X7_isName_49 (0 : Int32) σ)
def f_X7_isName  (σ : Wd) : Option (Int32 × Wd) := if (σ.1 102 30) = (2 : Int32) then (bd (f_X7_isWord 0 σ) fun r1 σ2 => if r1 = 0 then (bd (f_X7_isWord 1 σ2) fun r3 σ4 => if r3 = 0 then (bd (f_X7_isWord 2 σ4) fun r5 σ6 => if r5 = 0 then (bd (f_X7_isWord 3 σ6) fun r7 σ8 => if r7 = 0 then (f_X7_isName_49 (1 : Int32) σ8) else (f_X7_isName_48 σ8)) else (f_X7_isName_48 σ6)) else (f_X7_isName_48 σ4)) else (f_X7_isName_48 σ2)) else (f_X7_isName_48 σ)
set_option maxRecDepth 20000 in
set_option maxHeartbeats 1000000 in
theorem b_X7_isName_49 {K : Kt}   (hO : Ok K cX7_isName RX7 1 rm_X7_isName) (hR : Rt K (some .boolean))   (s0 : Int32) (σ : Wd)  : Cm K 1 (0, 0) (f_X7_isName_49  s0 σ) σ 49 [] [.int s0] := by
  exact r_zret hO hR dX7_isName_49
set_option maxRecDepth 20000 in
set_option maxHeartbeats 1000000 in
theorem b_X7_isName_48 {K : Kt}   (hO : Ok K cX7_isName RX7 1 rm_X7_isName) (hR : Rt K (some .boolean))    (σ : Wd)  : Cm K 1 (0, 0) (f_X7_isName_48   σ) σ 48 [] [] := by
  refine r_iconst hO ci_0 dX7_isName_48 ?_
  exact r_jmp (b_X7_isName_49 hO hR (0 : Int32) σ) lsub_n
set_option maxRecDepth 20000 in
set_option maxHeartbeats 1000000 in
theorem b_X7_isName {K : Kt}  (hO : Ok K cX7_isName RX7 1 rm_X7_isName) (hR : Rt K (some .boolean))   (σ : Wd) : Cm K 1 (0, 0) (f_X7_isName  σ) σ 0 [(0, .ref (K.G.A 102))] [] := by
  refine r_aload_n (i := 0) hO rfl rfl dX7_isName_0 ?_
  refine gX7_96 hO dX7_isName_1 ?_
  refine r_iconst hO ci_2 dX7_isName_4 ?_
  refine r_icmp_ne (tgt := 48) hO dX7_isName_5 (by decide) ?_ ?_
  · refine r_aload_n (i := 0) hO rfl rfl dX7_isName_8 ?_
    refine r_ldcS hO t_X7_144 dX7_isName_9 ?_
    refine k_X7_isWord hO (rfl : Nat.blt 0 13 = true) a_515 rfl ⟨rfl, rfl, Nat.le_refl _, Nat.le_refl _⟩ dX7_isName_11 ?_
    intro r1 σ2
    refine r_if_ne (tgt := 48) hO dX7_isName_14 (by decide) ?_ ?_
    · refine r_aload_n (i := 0) hO rfl rfl dX7_isName_17 ?_
      refine r_ldcS hO t_X7_146 dX7_isName_18 ?_
      refine k_X7_isWord hO (rfl : Nat.blt 1 13 = true) a_515 rfl ⟨rfl, rfl, Nat.le_refl _, Nat.le_refl _⟩ dX7_isName_20 ?_
      intro r3 σ4
      refine r_if_ne (tgt := 48) hO dX7_isName_23 (by decide) ?_ ?_
      · refine r_aload_n (i := 0) hO rfl rfl dX7_isName_26 ?_
        refine r_ldcS hO t_X7_147 dX7_isName_27 ?_
        refine k_X7_isWord hO (rfl : Nat.blt 2 13 = true) a_515 rfl ⟨rfl, rfl, Nat.le_refl _, Nat.le_refl _⟩ dX7_isName_29 ?_
        intro r5 σ6
        refine r_if_ne (tgt := 48) hO dX7_isName_32 (by decide) ?_ ?_
        · refine r_aload_n (i := 0) hO rfl rfl dX7_isName_35 ?_
          refine r_ldcS hO t_X7_149 dX7_isName_36 ?_
          refine k_X7_isWord hO (rfl : Nat.blt 3 13 = true) a_515 rfl ⟨rfl, rfl, Nat.le_refl _, Nat.le_refl _⟩ dX7_isName_38 ?_
          intro r7 σ8
          refine r_if_ne (tgt := 48) hO dX7_isName_41 (by decide) ?_ ?_
          · refine r_iconst hO ci_1 dX7_isName_44 ?_
            refine r_goto (tgt := 49) hO dX7_isName_45 (by decide) ?_
            exact r_jmp (b_X7_isName_49 hO hR (1 : Int32) σ8) lsub_n
          · exact r_jmp (b_X7_isName_48 hO hR σ8) lsub_n
        · exact r_jmp (b_X7_isName_48 hO hR σ6) lsub_n
      · exact r_jmp (b_X7_isName_48 hO hR σ4) lsub_n
    · exact r_jmp (b_X7_isName_48 hO hR σ2) lsub_n
  · exact r_jmp (b_X7_isName_48 hO hR σ) lsub_n
theorem c_X7_isName {l : Launch} {G : Gh}    (σ : Wd) : Con l G yX7_isName cX7_isName 1 (some .boolean) 6 130 [.ref (G.A 102)] σ (f_X7_isName  σ) := Con.of (plainFor_of_name (by decide)) rfl (Nat.le_of_ble_eq_true rfl) (fun K hl hG hO hR => by subst hl; subst hG; exact b_X7_isName hO hR   σ)
theorem cal_X7_isName : CalV yX7_isName cX7_isName 1 (some .boolean) 0 := ⟨a_520, a_521, a_522, a_464, by decide, by decide, by decide +kernel⟩
theorem k_X7_isName {K : Kt} {nL : Nat} {cs : Nat × Nat} {σ : Wd} {pc : Nat} {lv : List (Nat × Value)} {st : List Value} {cc : ByteArray} {own : String} {rm : Room} {index : Nat} {g : Int32 → Wd → Option (Int32 × Wd)}  (hO : Ok K cc own nL rm)  (hl : Cond.methodLink own index yX7_isName ∈ gtb) (hcat : Nat.ble ((st.map fun v => v.category).sum) 8 = true) (hR : RoomOk rm cs 6 130 1) (d : decode cc pc = .ok (.invokevirtual index, 3)) (kk : ∀ (r : Int32) (σ : Wd), Cm K nL cs (g r σ) σ (pc + 3) lv (.int r :: st)) : Cm K nL cs (bd (f_X7_isName  σ) g) σ pc lv (.ref (K.G.A 102) :: st) := r_cVi hO (c_X7_isName   σ) cal_X7_isName hl rfl (by decide) ent_X7 rfl rfl hcat hR d kk
/-! OrderSplitModel.venueBy -/
def f_X7_venueBy_2   : Nat → Int32 → Wd → Option (Int32 × Wd)
  | 0 => fun _ _ => none
  | n + 1 => fun x1 σ => if (σ.1 102 19) ≤ x1 then (some ((-1 : Int32), σ)) else (gd (inb x1 5) (if (lg_cmp (σ.2.1 111 (ix x1)) (σ.2.1 102 34)) = 0 then (some (x1, σ)) else (f_X7_venueBy_2 n (x1 + (1 : Int32)) σ)))
def f_X7_venueBy  (σ : Wd) : Option (Int32 × Wd) := (f_X7_venueBy_2 FU (0 : Int32) σ)
set_option maxRecDepth 20000 in
set_option maxHeartbeats 1000000 in
theorem b_X7_venueBy_2 {K : Kt}   (hO : Ok K cX7_venueBy RX7 2 rm_X7_venueBy) (hR : Rt K (some .int))   : ∀ (n : Nat) (x1 : Int32) (σ : Wd) , Cm K 2 (0, 0) (f_X7_venueBy_2  n x1 σ) σ 2 [(0, .ref (K.G.A 102)), (1, .int x1)] [] := by
  intro n
  induction n with
  | zero => intro x1 σ ; exact r_none
  | succ n ih =>
    intro x1 σ 
    refine r_iload_n (i := 1) hO rfl rfl dX7_venueBy_2 ?_
    refine r_aload_n (i := 0) hO rfl rfl dX7_venueBy_3 ?_
    refine gX7_150 hO dX7_venueBy_4 ?_
    refine r_icmp_ge (tgt := 32) hO dX7_venueBy_7 (by decide) ?_ ?_
    · refine r_iconst hO ci_m1 dX7_venueBy_32 ?_
      exact r_iret hO hR dX7_venueBy_33
    · refine r_aload_n (i := 0) hO rfl rfl dX7_venueBy_10 ?_
      refine gX7_40 hO dX7_venueBy_11 ?_
      refine r_iload_n (i := 1) hO rfl rfl dX7_venueBy_14 ?_
      refine r_lald hO s_111 dX7_venueBy_15 ?_
      refine r_aload_n (i := 0) hO rfl rfl dX7_venueBy_16 ?_
      refine gX7_113 hO dX7_venueBy_17 ?_
      refine r_lcmp hO dX7_venueBy_20 ?_
      refine r_if_ne (tgt := 26) hO dX7_venueBy_21 (by decide) ?_ ?_
      · refine r_iload_n (i := 1) hO rfl rfl dX7_venueBy_24 ?_
        exact r_iret hO hR dX7_venueBy_25
      · refine r_iinc hO rfl ci_1 rfl rfl dX7_venueBy_26 ?_
        refine r_goto (tgt := 2) hO dX7_venueBy_29 (by decide) ?_
        exact r_jmp (ih (x1 + (1 : Int32)) σ) (lsub_c rfl (lsub_c rfl lsub_n))
set_option maxRecDepth 20000 in
set_option maxHeartbeats 1000000 in
theorem b_X7_venueBy {K : Kt}  (hO : Ok K cX7_venueBy RX7 2 rm_X7_venueBy) (hR : Rt K (some .int))   (σ : Wd) : Cm K 2 (0, 0) (f_X7_venueBy  σ) σ 0 [(0, .ref (K.G.A 102))] [] := by
  refine r_iconst hO ci_0 dX7_venueBy_0 ?_
  refine r_istore_n (i := 1) hO rfl rfl rfl dX7_venueBy_1 ?_
  exact r_jmp (b_X7_venueBy_2 hO hR FU (0 : Int32) σ) (lsub_c rfl (lsub_c rfl lsub_n))
theorem c_X7_venueBy {l : Launch} {G : Gh}    (σ : Wd) : Con l G yX7_venueBy cX7_venueBy 2 (some .int) 0 0 [.ref (G.A 102)] σ (f_X7_venueBy  σ) := Con.of (plainFor_of_name (by decide)) rfl (Nat.le_of_ble_eq_true rfl) (fun K hl hG hO hR => by subst hl; subst hG; exact b_X7_venueBy hO hR   σ)
theorem cal_X7_venueBy : CalV yX7_venueBy cX7_venueBy 2 (some .int) 0 := ⟨a_523, a_524, a_525, a_464, by decide, by decide, by decide +kernel⟩
theorem k_X7_venueBy {K : Kt} {nL : Nat} {cs : Nat × Nat} {σ : Wd} {pc : Nat} {lv : List (Nat × Value)} {st : List Value} {cc : ByteArray} {own : String} {rm : Room} {index : Nat} {g : Int32 → Wd → Option (Int32 × Wd)}  (hO : Ok K cc own nL rm)  (hl : Cond.methodLink own index yX7_venueBy ∈ gtb) (hcat : Nat.ble ((st.map fun v => v.category).sum) 8 = true) (hR : RoomOk rm cs 0 0 2) (d : decode cc pc = .ok (.invokevirtual index, 3)) (kk : ∀ (r : Int32) (σ : Wd), Cm K nL cs (g r σ) σ (pc + 3) lv (.int r :: st)) : Cm K nL cs (bd (f_X7_venueBy  σ) g) σ pc lv (.ref (K.G.A 102) :: st) := r_cVi hO (c_X7_venueBy   σ) cal_X7_venueBy hl rfl (by decide) ent_X7 rfl rfl hcat hR d kk
/-! OrderSplitModel.knownVenue -/
def f_X7_knownVenue_50   (s0 : Int32) (σ : Wd) : Option (Int32 × Wd) := some (s0, σ)
def f_X7_knownVenue_38   (x1 : Int32) (σ : Wd) : Option (Int32 × Wd) := if (σ.1 102 33) ≤ 0 then (f_X7_knownVenue_50 x1 σ) else (f_X7_knownVenue_50 (0 : Int32) σ)
def f_X7_knownVenue_27   (s0 : Int32) (σ : Wd) : Option (Int32 × Wd) := if s0 = (-1 : Int32) then (bd (f_X7_flaw (2 : Int32) σ) fun _ σ1 => (f_X7_knownVenue_38 s0 σ1)) else (f_X7_knownVenue_38 s0 σ)
def f_X7_knownVenue_12    (σ : Wd) : Option (Int32 × Wd) := if (σ.1 102 33) ≤ 0 then (bd (f_X7_venueBy σ) fun r1 σ2 => (f_X7_knownVenue_27 r1 σ2)) else (f_X7_knownVenue_27 (-1 : Int32) σ)
def f_X7_knownVenue  (σ : Wd) : Option (Int32 × Wd) := bd (f_X7_isName σ) fun r1 σ2 => if r1 = 0 then (bd (f_X7_flaw (1 : Int32) σ2) fun _ σ3 => (f_X7_knownVenue_12 σ3)) else (f_X7_knownVenue_12 σ2)
set_option maxRecDepth 20000 in
set_option maxHeartbeats 1000000 in
theorem b_X7_knownVenue_50 {K : Kt}   (hO : Ok K cX7_knownVenue RX7 2 rm_X7_knownVenue) (hR : Rt K (some .int))   (s0 : Int32) (σ : Wd)  : Cm K 2 (0, 0) (f_X7_knownVenue_50  s0 σ) σ 50 [] [.int s0] := by
  exact r_iret hO hR dX7_knownVenue_50
set_option maxRecDepth 20000 in
set_option maxHeartbeats 1000000 in
theorem b_X7_knownVenue_38 {K : Kt}   (hO : Ok K cX7_knownVenue RX7 2 rm_X7_knownVenue) (hR : Rt K (some .int))   (x1 : Int32) (σ : Wd)  : Cm K 2 (0, 0) (f_X7_knownVenue_38  x1 σ) σ 38 [(0, .ref (K.G.A 102)), (1, .int x1)] [] := by
  refine r_aload_n (i := 0) hO rfl rfl dX7_knownVenue_38 ?_
  refine gX7_84 hO dX7_knownVenue_39 ?_
  refine r_if_le (tgt := 49) hO dX7_knownVenue_42 (by decide) ?_ ?_
  · refine r_iload_n (i := 1) hO rfl rfl dX7_knownVenue_49 ?_
    exact r_jmp (b_X7_knownVenue_50 hO hR x1 σ) lsub_n
  · refine r_iconst hO ci_0 dX7_knownVenue_45 ?_
    refine r_goto (tgt := 50) hO dX7_knownVenue_46 (by decide) ?_
    exact r_jmp (b_X7_knownVenue_50 hO hR (0 : Int32) σ) lsub_n
set_option maxRecDepth 20000 in
set_option maxHeartbeats 1000000 in
theorem b_X7_knownVenue_27 {K : Kt}   (hO : Ok K cX7_knownVenue RX7 2 rm_X7_knownVenue) (hR : Rt K (some .int))   (s0 : Int32) (σ : Wd)  : Cm K 2 (0, 0) (f_X7_knownVenue_27  s0 σ) σ 27 [(0, .ref (K.G.A 102))] [.int s0] := by
  refine r_istore_n (i := 1) hO rfl rfl rfl dX7_knownVenue_27 ?_
  refine r_iload_n (i := 1) hO rfl rfl dX7_knownVenue_28 ?_
  refine r_iconst hO ci_m1 dX7_knownVenue_29 ?_
  refine r_icmp_ne (tgt := 38) hO dX7_knownVenue_30 (by decide) ?_ ?_
  · refine r_aload_n (i := 0) hO rfl rfl dX7_knownVenue_33 ?_
    refine r_iconst hO ci_2 dX7_knownVenue_34 ?_
    refine k_X7_flaw hO a_510 rfl ⟨rfl, rfl, Nat.le_refl _, Nat.le_refl _⟩ dX7_knownVenue_35 ?_
    intro _ σ1
    exact r_jmp (b_X7_knownVenue_38 hO hR s0 σ1) (lsub_c rfl (lsub_c rfl lsub_n))
  · exact r_jmp (b_X7_knownVenue_38 hO hR s0 σ) (lsub_c rfl (lsub_c rfl lsub_n))
set_option maxRecDepth 20000 in
set_option maxHeartbeats 1000000 in
theorem b_X7_knownVenue_12 {K : Kt}   (hO : Ok K cX7_knownVenue RX7 2 rm_X7_knownVenue) (hR : Rt K (some .int))    (σ : Wd)  : Cm K 2 (0, 0) (f_X7_knownVenue_12   σ) σ 12 [(0, .ref (K.G.A 102))] [] := by
  refine r_aload_n (i := 0) hO rfl rfl dX7_knownVenue_12 ?_
  refine gX7_84 hO dX7_knownVenue_13 ?_
  refine r_if_le (tgt := 23) hO dX7_knownVenue_16 (by decide) ?_ ?_
  · refine r_aload_n (i := 0) hO rfl rfl dX7_knownVenue_23 ?_
    refine k_X7_venueBy hO a_527 rfl ⟨rfl, rfl, Nat.le_refl _, Nat.le_refl _⟩ dX7_knownVenue_24 ?_
    intro r1 σ2
    exact r_jmp (b_X7_knownVenue_27 hO hR r1 σ2) (lsub_c rfl lsub_n)
  · refine r_iconst hO ci_m1 dX7_knownVenue_19 ?_
    refine r_goto (tgt := 27) hO dX7_knownVenue_20 (by decide) ?_
    exact r_jmp (b_X7_knownVenue_27 hO hR (-1 : Int32) σ) (lsub_c rfl lsub_n)
set_option maxRecDepth 20000 in
set_option maxHeartbeats 1000000 in
theorem b_X7_knownVenue {K : Kt}  (hO : Ok K cX7_knownVenue RX7 2 rm_X7_knownVenue) (hR : Rt K (some .int))   (σ : Wd) : Cm K 2 (0, 0) (f_X7_knownVenue  σ) σ 0 [(0, .ref (K.G.A 102))] [] := by
  refine r_aload_n (i := 0) hO rfl rfl dX7_knownVenue_0 ?_
  refine k_X7_isName hO a_526 rfl ⟨rfl, rfl, Nat.le_refl _, Nat.le_refl _⟩ dX7_knownVenue_1 ?_
  intro r1 σ2
  refine r_if_ne (tgt := 12) hO dX7_knownVenue_4 (by decide) ?_ ?_
  · refine r_aload_n (i := 0) hO rfl rfl dX7_knownVenue_7 ?_
    refine r_iconst hO ci_1 dX7_knownVenue_8 ?_
    refine k_X7_flaw hO a_510 rfl ⟨rfl, rfl, Nat.le_refl _, Nat.le_refl _⟩ dX7_knownVenue_9 ?_
    intro _ σ3
    exact r_jmp (b_X7_knownVenue_12 hO hR σ3) (lsub_c rfl lsub_n)
  · exact r_jmp (b_X7_knownVenue_12 hO hR σ2) (lsub_c rfl lsub_n)
theorem c_X7_knownVenue {l : Launch} {G : Gh}    (σ : Wd) : Con l G yX7_knownVenue cX7_knownVenue 2 (some .int) 7 150 [.ref (G.A 102)] σ (f_X7_knownVenue  σ) := Con.of (plainFor_of_name (by decide)) rfl (Nat.le_of_ble_eq_true rfl) (fun K hl hG hO hR => by subst hl; subst hG; exact b_X7_knownVenue hO hR   σ)
theorem cal_X7_knownVenue : CalV yX7_knownVenue cX7_knownVenue 2 (some .int) 0 := ⟨a_528, a_529, a_530, a_464, by decide, by decide, by decide +kernel⟩
theorem k_X7_knownVenue {K : Kt} {nL : Nat} {cs : Nat × Nat} {σ : Wd} {pc : Nat} {lv : List (Nat × Value)} {st : List Value} {cc : ByteArray} {own : String} {rm : Room} {index : Nat} {g : Int32 → Wd → Option (Int32 × Wd)}  (hO : Ok K cc own nL rm)  (hl : Cond.methodLink own index yX7_knownVenue ∈ gtb) (hcat : Nat.ble ((st.map fun v => v.category).sum) 8 = true) (hR : RoomOk rm cs 7 150 2) (d : decode cc pc = .ok (.invokevirtual index, 3)) (kk : ∀ (r : Int32) (σ : Wd), Cm K nL cs (g r σ) σ (pc + 3) lv (.int r :: st)) : Cm K nL cs (bd (f_X7_knownVenue  σ) g) σ pc lv (.ref (K.G.A 102) :: st) := r_cVi hO (c_X7_knownVenue   σ) cal_X7_knownVenue hl rfl (by decide) ent_X7 rfl rfl hcat hR d kk
/-! OrderSplitModel.readOrderLine -/
def f_X7_readOrderLine_12    (σ : Wd) : Option (Int32 × Wd) := bd (f_X7_next σ) fun _ σ1 => bd (f_X7_readWhole (1 : Int32) (120 : Int32) σ1) fun r2 σ3 => bd (f_X7_readPart 4 (1 : Int32) (999 : Int32) σ3) fun r4 σ5 => bd (f_X7_readPart 5 (1 : Int32) (20 : Int32) σ5) fun r6 σ7 => if (σ7.1 102 33) ≤ 0 then (nmW (wi σ7 102 16 r2) fun σ8 => nmW (wi σ8 102 17 r4) fun σ9 => nmW (wi σ9 102 18 r6) fun σ10 => some (0, σ10)) else (some (0, σ7))
def f_X7_readOrderLine  (σ : Wd) : Option (Int32 × Wd) := if (σ.1 102 16) ≤ 0 then (f_X7_readOrderLine_12 σ) else (bd (f_X7_flaw (3 : Int32) σ) fun _ σ1 => (f_X7_readOrderLine_12 σ1))
set_option maxRecDepth 20000 in
set_option maxHeartbeats 1000000 in
theorem b_X7_readOrderLine_12 {K : Kt}   (hO : Ok K cX7_readOrderLine RX7 4 rm_X7_readOrderLine) (hR : Rt K none)    (σ : Wd)  : Cm K 4 (0, 0) (f_X7_readOrderLine_12   σ) σ 12 [(0, .ref (K.G.A 102))] [] := by
  refine r_aload_n (i := 0) hO rfl rfl dX7_readOrderLine_12 ?_
  refine k_X7_next hO a_511 rfl ⟨rfl, rfl, Nat.le_refl _, Nat.le_refl _⟩ dX7_readOrderLine_13 ?_
  intro _ σ1
  refine r_aload_n (i := 0) hO rfl rfl dX7_readOrderLine_16 ?_
  refine r_iconst hO ci_1 dX7_readOrderLine_17 ?_
  refine r_bipush hO bi_120 dX7_readOrderLine_18 ?_
  refine k_X7_readWhole hO a_516 rfl ⟨rfl, rfl, Nat.le_refl _, Nat.le_refl _⟩ dX7_readOrderLine_20 ?_
  intro r2 σ3
  refine r_istore_n (i := 1) hO rfl rfl rfl dX7_readOrderLine_23 ?_
  refine r_aload_n (i := 0) hO rfl rfl dX7_readOrderLine_24 ?_
  refine r_ldcS hO t_X7_185 dX7_readOrderLine_25 ?_
  refine r_iconst hO ci_1 dX7_readOrderLine_27 ?_
  refine r_sipush hO si_999 dX7_readOrderLine_28 ?_
  refine k_X7_readPart hO (rfl : Nat.blt 4 13 = true) a_531 rfl ⟨rfl, rfl, Nat.le_refl _, Nat.le_refl _⟩ dX7_readOrderLine_31 ?_
  intro r4 σ5
  refine r_istore_n (i := 2) hO rfl rfl rfl dX7_readOrderLine_34 ?_
  refine r_aload_n (i := 0) hO rfl rfl dX7_readOrderLine_35 ?_
  refine r_ldcS hO t_X7_191 dX7_readOrderLine_36 ?_
  refine r_iconst hO ci_1 dX7_readOrderLine_38 ?_
  refine r_bipush hO bi_20 dX7_readOrderLine_39 ?_
  refine k_X7_readPart hO (rfl : Nat.blt 5 13 = true) a_531 rfl ⟨rfl, rfl, Nat.le_refl _, Nat.le_refl _⟩ dX7_readOrderLine_41 ?_
  intro r6 σ7
  refine r_istore_n (i := 3) hO rfl rfl rfl dX7_readOrderLine_44 ?_
  refine r_aload_n (i := 0) hO rfl rfl dX7_readOrderLine_45 ?_
  refine gX7_84 hO dX7_readOrderLine_46 ?_
  refine r_if_le (tgt := 53) hO dX7_readOrderLine_49 (by decide) ?_ ?_
  · refine r_aload_n (i := 0) hO rfl rfl dX7_readOrderLine_53 ?_
    refine r_iload_n (i := 1) hO rfl rfl dX7_readOrderLine_54 ?_
    refine pX7_160 hO dX7_readOrderLine_55 ?_
    refine r_nmW fun σ8 => ?_
    refine r_aload_n (i := 0) hO rfl rfl dX7_readOrderLine_58 ?_
    refine r_iload_n (i := 2) hO rfl rfl dX7_readOrderLine_59 ?_
    refine pX7_193 hO dX7_readOrderLine_60 ?_
    refine r_nmW fun σ9 => ?_
    refine r_aload_n (i := 0) hO rfl rfl dX7_readOrderLine_63 ?_
    refine r_iload_n (i := 3) hO rfl rfl dX7_readOrderLine_64 ?_
    refine pX7_196 hO dX7_readOrderLine_65 ?_
    refine r_nmW fun σ10 => ?_
    exact r_vret hO hR dX7_readOrderLine_68
  · exact r_vret hO hR dX7_readOrderLine_52
set_option maxRecDepth 20000 in
set_option maxHeartbeats 1000000 in
theorem b_X7_readOrderLine {K : Kt}  (hO : Ok K cX7_readOrderLine RX7 4 rm_X7_readOrderLine) (hR : Rt K none)   (σ : Wd) : Cm K 4 (0, 0) (f_X7_readOrderLine  σ) σ 0 [(0, .ref (K.G.A 102))] [] := by
  refine r_aload_n (i := 0) hO rfl rfl dX7_readOrderLine_0 ?_
  refine gX7_160 hO dX7_readOrderLine_1 ?_
  refine r_if_le (tgt := 12) hO dX7_readOrderLine_4 (by decide) ?_ ?_
  · exact r_jmp (b_X7_readOrderLine_12 hO hR σ) (lsub_c rfl lsub_n)
  · refine r_aload_n (i := 0) hO rfl rfl dX7_readOrderLine_7 ?_
    refine r_iconst hO ci_3 dX7_readOrderLine_8 ?_
    refine k_X7_flaw hO a_510 rfl ⟨rfl, rfl, Nat.le_refl _, Nat.le_refl _⟩ dX7_readOrderLine_9 ?_
    intro _ σ1
    exact r_jmp (b_X7_readOrderLine_12 hO hR σ1) (lsub_c rfl lsub_n)
theorem c_X7_readOrderLine {l : Launch} {G : Gh}    (σ : Wd) : Con l G yX7_readOrderLine cX7_readOrderLine 4 none 7 153 [.ref (G.A 102)] σ (f_X7_readOrderLine  σ) := Con.of (plainFor_of_name (by decide)) rfl (Nat.le_of_ble_eq_true rfl) (fun K hl hG hO hR => by subst hl; subst hG; exact b_X7_readOrderLine hO hR   σ)
theorem cal_X7_readOrderLine : CalV yX7_readOrderLine cX7_readOrderLine 4 none 0 := ⟨a_532, a_533, a_534, a_464, by decide, by decide, by decide +kernel⟩
theorem k_X7_readOrderLine {K : Kt} {nL : Nat} {cs : Nat × Nat} {σ : Wd} {pc : Nat} {lv : List (Nat × Value)} {st : List Value} {cc : ByteArray} {own : String} {rm : Room} {index : Nat} {g : Int32 → Wd → Option (Int32 × Wd)}  (hO : Ok K cc own nL rm)  (hl : Cond.methodLink own index yX7_readOrderLine ∈ gtb) (hcat : Nat.ble ((st.map fun v => v.category).sum) 8 = true) (hR : RoomOk rm cs 7 153 4) (d : decode cc pc = .ok (.invokevirtual index, 3)) (kk : ∀ (r : Int32) (σ : Wd), Cm K nL cs (g r σ) σ (pc + 3) lv st) : Cm K nL cs (bd (f_X7_readOrderLine  σ) g) σ pc lv (.ref (K.G.A 102) :: st) := r_cVv hO (c_X7_readOrderLine   σ) cal_X7_readOrderLine hl rfl (by decide) ent_X7 rfl rfl hcat hR d kk
/-! OrderSplitModel.begins -/
def f_X7_begins_22    (σ : Wd) : Option (Int32 × Wd) := bd (f_X7_next σ) fun _ σ1 => some (0, σ1)
def f_X7_begins_9    (σ : Wd) : Option (Int32 × Wd) := if (σ.1 102 16) = 0 then (bd (f_X7_flaw (6 : Int32) σ) fun _ σ1 => (f_X7_begins_22 σ1)) else (f_X7_begins_22 σ)
def f_X7_begins (a1 : Int32) (σ : Wd) : Option (Int32 × Wd) := if a1 = 0 then (f_X7_begins_9 σ) else (bd (f_X7_flaw (5 : Int32) σ) fun _ σ1 => (f_X7_begins_9 σ1))
set_option maxRecDepth 20000 in
set_option maxHeartbeats 1000000 in
theorem b_X7_begins_22 {K : Kt}   (hO : Ok K cX7_begins RX7 2 rm_X7_begins) (hR : Rt K none)    (σ : Wd)  : Cm K 2 (0, 0) (f_X7_begins_22   σ) σ 22 [(0, .ref (K.G.A 102))] [] := by
  refine r_aload_n (i := 0) hO rfl rfl dX7_begins_22 ?_
  refine k_X7_next hO a_511 rfl ⟨rfl, rfl, Nat.le_refl _, Nat.le_refl _⟩ dX7_begins_23 ?_
  intro _ σ1
  exact r_vret hO hR dX7_begins_26
set_option maxRecDepth 20000 in
set_option maxHeartbeats 1000000 in
theorem b_X7_begins_9 {K : Kt}   (hO : Ok K cX7_begins RX7 2 rm_X7_begins) (hR : Rt K none)    (σ : Wd)  : Cm K 2 (0, 0) (f_X7_begins_9   σ) σ 9 [(0, .ref (K.G.A 102))] [] := by
  refine r_aload_n (i := 0) hO rfl rfl dX7_begins_9 ?_
  refine gX7_160 hO dX7_begins_10 ?_
  refine r_if_ne (tgt := 22) hO dX7_begins_13 (by decide) ?_ ?_
  · refine r_aload_n (i := 0) hO rfl rfl dX7_begins_16 ?_
    refine r_bipush hO bi_6 dX7_begins_17 ?_
    refine k_X7_flaw hO a_510 rfl ⟨rfl, rfl, Nat.le_refl _, Nat.le_refl _⟩ dX7_begins_19 ?_
    intro _ σ1
    exact r_jmp (b_X7_begins_22 hO hR σ1) (lsub_c rfl lsub_n)
  · exact r_jmp (b_X7_begins_22 hO hR σ) (lsub_c rfl lsub_n)
set_option maxRecDepth 20000 in
set_option maxHeartbeats 1000000 in
theorem b_X7_begins {K : Kt}  (hO : Ok K cX7_begins RX7 2 rm_X7_begins) (hR : Rt K none)  (a1 : Int32) (σ : Wd) : Cm K 2 (0, 0) (f_X7_begins a1 σ) σ 0 [(0, .ref (K.G.A 102)), (1, .int a1)] [] := by
  refine r_iload_n (i := 1) hO rfl rfl dX7_begins_0 ?_
  refine r_if_eq (tgt := 9) hO dX7_begins_1 (by decide) ?_ ?_
  · exact r_jmp (b_X7_begins_9 hO hR σ) (lsub_c rfl lsub_n)
  · refine r_aload_n (i := 0) hO rfl rfl dX7_begins_4 ?_
    refine r_iconst hO ci_5 dX7_begins_5 ?_
    refine k_X7_flaw hO a_510 rfl ⟨rfl, rfl, Nat.le_refl _, Nat.le_refl _⟩ dX7_begins_6 ?_
    intro _ σ1
    exact r_jmp (b_X7_begins_9 hO hR σ1) (lsub_c rfl lsub_n)
theorem c_X7_begins {l : Launch} {G : Gh}   (a1 : Int32) (σ : Wd) : Con l G yX7_begins cX7_begins 2 none 3 63 [.ref (G.A 102), .int a1] σ (f_X7_begins a1 σ) := Con.of (plainFor_of_name (by decide)) rfl (Nat.le_of_ble_eq_true rfl) (fun K hl hG hO hR => by subst hl; subst hG; exact b_X7_begins hO hR  a1 σ)
theorem cal_X7_begins : CalV yX7_begins cX7_begins 2 none 1 := ⟨a_535, a_536, a_537, a_464, by decide, by decide, by decide +kernel⟩
theorem k_X7_begins {K : Kt} {nL : Nat} {cs : Nat × Nat} {σ : Wd} {pc : Nat} {lv : List (Nat × Value)} {st : List Value} {cc : ByteArray} {own : String} {rm : Room} {index : Nat} {g : Int32 → Wd → Option (Int32 × Wd)} {a1 : Int32} (hO : Ok K cc own nL rm)  (hl : Cond.methodLink own index yX7_begins ∈ gtb) (hcat : Nat.ble ((st.map fun v => v.category).sum) 8 = true) (hR : RoomOk rm cs 3 63 2) (d : decode cc pc = .ok (.invokevirtual index, 3)) (kk : ∀ (r : Int32) (σ : Wd), Cm K nL cs (g r σ) σ (pc + 3) lv st) : Cm K nL cs (bd (f_X7_begins a1 σ) g) σ pc lv (.int a1 :: .ref (K.G.A 102) :: st) := r_cVv hO (c_X7_begins  a1 σ) cal_X7_begins hl rfl (by decide) ent_X7 rfl rfl hcat hR d kk
/-! OrderSplitModel.readKind -/
def f_X7_readKind_51   (x1 : Int32) (σ : Wd) : Option (Int32 × Wd) := bd (f_X7_next σ) fun _ σ1 => some (x1, σ1)
def f_X7_readKind_40   (s0 : Int32) (σ : Wd) : Option (Int32 × Wd) := if s0 = (-1 : Int32) then (bd (f_X7_flaw (1 : Int32) σ) fun _ σ1 => (f_X7_readKind_51 s0 σ1)) else (f_X7_readKind_51 s0 σ)
def f_X7_readKind  (σ : Wd) : Option (Int32 × Wd) := bd (f_X7_isWord 6 σ) fun r1 σ2 => if r1 = 0 then (bd (f_X7_isWord 7 σ2) fun r3 σ4 => if r3 = 0 then (bd (f_X7_isWord 8 σ4) fun r5 σ6 => if r5 = 0 then (f_X7_readKind_40 (-1 : Int32) σ6) else (f_X7_readKind_40 (2 : Int32) σ6)) else (f_X7_readKind_40 (1 : Int32) σ4)) else (f_X7_readKind_40 (0 : Int32) σ2)
set_option maxRecDepth 20000 in
set_option maxHeartbeats 1000000 in
theorem b_X7_readKind_51 {K : Kt}   (hO : Ok K cX7_readKind RX7 2 rm_X7_readKind) (hR : Rt K (some .int))   (x1 : Int32) (σ : Wd)  : Cm K 2 (0, 0) (f_X7_readKind_51  x1 σ) σ 51 [(0, .ref (K.G.A 102)), (1, .int x1)] [] := by
  refine r_aload_n (i := 0) hO rfl rfl dX7_readKind_51 ?_
  refine k_X7_next hO a_511 rfl ⟨rfl, rfl, Nat.le_refl _, Nat.le_refl _⟩ dX7_readKind_52 ?_
  intro _ σ1
  refine r_iload_n (i := 1) hO rfl rfl dX7_readKind_55 ?_
  exact r_iret hO hR dX7_readKind_56
set_option maxRecDepth 20000 in
set_option maxHeartbeats 1000000 in
theorem b_X7_readKind_40 {K : Kt}   (hO : Ok K cX7_readKind RX7 2 rm_X7_readKind) (hR : Rt K (some .int))   (s0 : Int32) (σ : Wd)  : Cm K 2 (0, 0) (f_X7_readKind_40  s0 σ) σ 40 [(0, .ref (K.G.A 102))] [.int s0] := by
  refine r_istore_n (i := 1) hO rfl rfl rfl dX7_readKind_40 ?_
  refine r_iload_n (i := 1) hO rfl rfl dX7_readKind_41 ?_
  refine r_iconst hO ci_m1 dX7_readKind_42 ?_
  refine r_icmp_ne (tgt := 51) hO dX7_readKind_43 (by decide) ?_ ?_
  · refine r_aload_n (i := 0) hO rfl rfl dX7_readKind_46 ?_
    refine r_iconst hO ci_1 dX7_readKind_47 ?_
    refine k_X7_flaw hO a_510 rfl ⟨rfl, rfl, Nat.le_refl _, Nat.le_refl _⟩ dX7_readKind_48 ?_
    intro _ σ1
    exact r_jmp (b_X7_readKind_51 hO hR s0 σ1) (lsub_c rfl (lsub_c rfl lsub_n))
  · exact r_jmp (b_X7_readKind_51 hO hR s0 σ) (lsub_c rfl (lsub_c rfl lsub_n))
set_option maxRecDepth 20000 in
set_option maxHeartbeats 1000000 in
theorem b_X7_readKind {K : Kt}  (hO : Ok K cX7_readKind RX7 2 rm_X7_readKind) (hR : Rt K (some .int))   (σ : Wd) : Cm K 2 (0, 0) (f_X7_readKind  σ) σ 0 [(0, .ref (K.G.A 102))] [] := by
  refine r_aload_n (i := 0) hO rfl rfl dX7_readKind_0 ?_
  refine r_ldcS hO t_X7_199 dX7_readKind_1 ?_
  refine k_X7_isWord hO (rfl : Nat.blt 6 13 = true) a_515 rfl ⟨rfl, rfl, Nat.le_refl _, Nat.le_refl _⟩ dX7_readKind_3 ?_
  intro r1 σ2
  refine r_if_eq (tgt := 13) hO dX7_readKind_6 (by decide) ?_ ?_
  · refine r_aload_n (i := 0) hO rfl rfl dX7_readKind_13 ?_
    refine r_ldcS hO t_X7_201 dX7_readKind_14 ?_
    refine k_X7_isWord hO (rfl : Nat.blt 7 13 = true) a_515 rfl ⟨rfl, rfl, Nat.le_refl _, Nat.le_refl _⟩ dX7_readKind_16 ?_
    intro r3 σ4
    refine r_if_eq (tgt := 26) hO dX7_readKind_19 (by decide) ?_ ?_
    · refine r_aload_n (i := 0) hO rfl rfl dX7_readKind_26 ?_
      refine r_ldcS hO t_X7_203 dX7_readKind_27 ?_
      refine k_X7_isWord hO (rfl : Nat.blt 8 13 = true) a_515 rfl ⟨rfl, rfl, Nat.le_refl _, Nat.le_refl _⟩ dX7_readKind_29 ?_
      intro r5 σ6
      refine r_if_eq (tgt := 39) hO dX7_readKind_32 (by decide) ?_ ?_
      · refine r_iconst hO ci_m1 dX7_readKind_39 ?_
        exact r_jmp (b_X7_readKind_40 hO hR (-1 : Int32) σ6) (lsub_c rfl lsub_n)
      · refine r_iconst hO ci_2 dX7_readKind_35 ?_
        refine r_goto (tgt := 40) hO dX7_readKind_36 (by decide) ?_
        exact r_jmp (b_X7_readKind_40 hO hR (2 : Int32) σ6) (lsub_c rfl lsub_n)
    · refine r_iconst hO ci_1 dX7_readKind_22 ?_
      refine r_goto (tgt := 40) hO dX7_readKind_23 (by decide) ?_
      exact r_jmp (b_X7_readKind_40 hO hR (1 : Int32) σ4) (lsub_c rfl lsub_n)
  · refine r_iconst hO ci_0 dX7_readKind_9 ?_
    refine r_goto (tgt := 40) hO dX7_readKind_10 (by decide) ?_
    exact r_jmp (b_X7_readKind_40 hO hR (0 : Int32) σ2) (lsub_c rfl lsub_n)
theorem c_X7_readKind {l : Launch} {G : Gh}    (σ : Wd) : Con l G yX7_readKind cX7_readKind 2 (some .int) 6 130 [.ref (G.A 102)] σ (f_X7_readKind  σ) := Con.of (plainFor_of_name (by decide)) rfl (Nat.le_of_ble_eq_true rfl) (fun K hl hG hO hR => by subst hl; subst hG; exact b_X7_readKind hO hR   σ)
theorem cal_X7_readKind : CalV yX7_readKind cX7_readKind 2 (some .int) 0 := ⟨a_538, a_539, a_540, a_464, by decide, by decide, by decide +kernel⟩
theorem k_X7_readKind {K : Kt} {nL : Nat} {cs : Nat × Nat} {σ : Wd} {pc : Nat} {lv : List (Nat × Value)} {st : List Value} {cc : ByteArray} {own : String} {rm : Room} {index : Nat} {g : Int32 → Wd → Option (Int32 × Wd)}  (hO : Ok K cc own nL rm)  (hl : Cond.methodLink own index yX7_readKind ∈ gtb) (hcat : Nat.ble ((st.map fun v => v.category).sum) 8 = true) (hR : RoomOk rm cs 6 130 2) (d : decode cc pc = .ok (.invokevirtual index, 3)) (kk : ∀ (r : Int32) (σ : Wd), Cm K nL cs (g r σ) σ (pc + 3) lv (.int r :: st)) : Cm K nL cs (bd (f_X7_readKind  σ) g) σ pc lv (.ref (K.G.A 102) :: st) := r_cVi hO (c_X7_readKind   σ) cal_X7_readKind hl rfl (by decide) ent_X7 rfl rfl hcat hR d kk
/-! OrderSplitModel.readFeeOf -/
def f_X7_readFeeOf_51   (s0 : Int32) (σ : Wd) : Option (Int32 × Wd) := some (s0, σ)
def f_X7_readFeeOf_33   (x1 : Int32) (σ : Wd) : Option (Int32 × Wd) := bd (f_X7_readWhole (0 : Int32) (9 : Int32) σ) fun r1 σ2 => if x1 = 0 then (f_X7_readFeeOf_51 r1 σ2) else (f_X7_readFeeOf_51 (-r1) σ2)
def f_X7_readFeeOf_14    (σ : Wd) : Option (Int32 × Wd) := bd (f_X7_next σ) fun _ σ1 => bd (f_X7_isSign (45 : Int32) σ1) fun r2 σ3 => if r2 = 0 then (f_X7_readFeeOf_33 r2 σ3) else (bd (f_X7_next σ3) fun _ σ4 => (f_X7_readFeeOf_33 r2 σ4))
def f_X7_readFeeOf  (σ : Wd) : Option (Int32 × Wd) := bd (f_X7_isWord 10 σ) fun r1 σ2 => if r1 = 0 then (bd (f_X7_flaw (1 : Int32) σ2) fun _ σ3 => (f_X7_readFeeOf_14 σ3)) else (f_X7_readFeeOf_14 σ2)
set_option maxRecDepth 20000 in
set_option maxHeartbeats 1000000 in
theorem b_X7_readFeeOf_51 {K : Kt}   (hO : Ok K cX7_readFeeOf RX7 3 rm_X7_readFeeOf) (hR : Rt K (some .int))   (s0 : Int32) (σ : Wd)  : Cm K 3 (0, 0) (f_X7_readFeeOf_51  s0 σ) σ 51 [] [.int s0] := by
  exact r_iret hO hR dX7_readFeeOf_51
set_option maxRecDepth 20000 in
set_option maxHeartbeats 1000000 in
theorem b_X7_readFeeOf_33 {K : Kt}   (hO : Ok K cX7_readFeeOf RX7 3 rm_X7_readFeeOf) (hR : Rt K (some .int))   (x1 : Int32) (σ : Wd)  : Cm K 3 (0, 0) (f_X7_readFeeOf_33  x1 σ) σ 33 [(0, .ref (K.G.A 102)), (1, .int x1)] [] := by
  refine r_aload_n (i := 0) hO rfl rfl dX7_readFeeOf_33 ?_
  refine r_iconst hO ci_0 dX7_readFeeOf_34 ?_
  refine r_bipush hO bi_9 dX7_readFeeOf_35 ?_
  refine k_X7_readWhole hO a_516 rfl ⟨rfl, rfl, Nat.le_refl _, Nat.le_refl _⟩ dX7_readFeeOf_37 ?_
  intro r1 σ2
  refine r_istore_n (i := 2) hO rfl rfl rfl dX7_readFeeOf_40 ?_
  refine r_iload_n (i := 1) hO rfl rfl dX7_readFeeOf_41 ?_
  refine r_if_eq (tgt := 50) hO dX7_readFeeOf_42 (by decide) ?_ ?_
  · refine r_iload_n (i := 2) hO rfl rfl dX7_readFeeOf_50 ?_
    exact r_jmp (b_X7_readFeeOf_51 hO hR r1 σ2) lsub_n
  · refine r_iload_n (i := 2) hO rfl rfl dX7_readFeeOf_45 ?_
    refine r_ineg hO dX7_readFeeOf_46 ?_
    refine r_goto (tgt := 51) hO dX7_readFeeOf_47 (by decide) ?_
    exact r_jmp (b_X7_readFeeOf_51 hO hR (-r1) σ2) lsub_n
set_option maxRecDepth 20000 in
set_option maxHeartbeats 1000000 in
theorem b_X7_readFeeOf_14 {K : Kt}   (hO : Ok K cX7_readFeeOf RX7 3 rm_X7_readFeeOf) (hR : Rt K (some .int))    (σ : Wd)  : Cm K 3 (0, 0) (f_X7_readFeeOf_14   σ) σ 14 [(0, .ref (K.G.A 102))] [] := by
  refine r_aload_n (i := 0) hO rfl rfl dX7_readFeeOf_14 ?_
  refine k_X7_next hO a_511 rfl ⟨rfl, rfl, Nat.le_refl _, Nat.le_refl _⟩ dX7_readFeeOf_15 ?_
  intro _ σ1
  refine r_aload_n (i := 0) hO rfl rfl dX7_readFeeOf_18 ?_
  refine r_bipush hO bi_45 dX7_readFeeOf_19 ?_
  refine k_X7_isSign hO a_541 rfl ⟨rfl, rfl, Nat.le_refl _, Nat.le_refl _⟩ dX7_readFeeOf_21 ?_
  intro r2 σ3
  refine r_istore_n (i := 1) hO rfl rfl rfl dX7_readFeeOf_24 ?_
  refine r_iload_n (i := 1) hO rfl rfl dX7_readFeeOf_25 ?_
  refine r_if_eq (tgt := 33) hO dX7_readFeeOf_26 (by decide) ?_ ?_
  · exact r_jmp (b_X7_readFeeOf_33 hO hR r2 σ3) (lsub_c rfl (lsub_c rfl lsub_n))
  · refine r_aload_n (i := 0) hO rfl rfl dX7_readFeeOf_29 ?_
    refine k_X7_next hO a_511 rfl ⟨rfl, rfl, Nat.le_refl _, Nat.le_refl _⟩ dX7_readFeeOf_30 ?_
    intro _ σ4
    exact r_jmp (b_X7_readFeeOf_33 hO hR r2 σ4) (lsub_c rfl (lsub_c rfl lsub_n))
set_option maxRecDepth 20000 in
set_option maxHeartbeats 1000000 in
theorem b_X7_readFeeOf {K : Kt}  (hO : Ok K cX7_readFeeOf RX7 3 rm_X7_readFeeOf) (hR : Rt K (some .int))   (σ : Wd) : Cm K 3 (0, 0) (f_X7_readFeeOf  σ) σ 0 [(0, .ref (K.G.A 102))] [] := by
  refine r_aload_n (i := 0) hO rfl rfl dX7_readFeeOf_0 ?_
  refine r_ldcS hO t_X7_205 dX7_readFeeOf_1 ?_
  refine k_X7_isWord hO (rfl : Nat.blt 10 13 = true) a_515 rfl ⟨rfl, rfl, Nat.le_refl _, Nat.le_refl _⟩ dX7_readFeeOf_3 ?_
  intro r1 σ2
  refine r_if_ne (tgt := 14) hO dX7_readFeeOf_6 (by decide) ?_ ?_
  · refine r_aload_n (i := 0) hO rfl rfl dX7_readFeeOf_9 ?_
    refine r_iconst hO ci_1 dX7_readFeeOf_10 ?_
    refine k_X7_flaw hO a_510 rfl ⟨rfl, rfl, Nat.le_refl _, Nat.le_refl _⟩ dX7_readFeeOf_11 ?_
    intro _ σ3
    exact r_jmp (b_X7_readFeeOf_14 hO hR σ3) (lsub_c rfl lsub_n)
  · exact r_jmp (b_X7_readFeeOf_14 hO hR σ2) (lsub_c rfl lsub_n)
theorem c_X7_readFeeOf {l : Launch} {G : Gh}    (σ : Wd) : Con l G yX7_readFeeOf cX7_readFeeOf 3 (some .int) 6 130 [.ref (G.A 102)] σ (f_X7_readFeeOf  σ) := Con.of (plainFor_of_name (by decide)) rfl (Nat.le_of_ble_eq_true rfl) (fun K hl hG hO hR => by subst hl; subst hG; exact b_X7_readFeeOf hO hR   σ)
theorem cal_X7_readFeeOf : CalV yX7_readFeeOf cX7_readFeeOf 3 (some .int) 0 := ⟨a_542, a_543, a_544, a_464, by decide, by decide, by decide +kernel⟩
theorem k_X7_readFeeOf {K : Kt} {nL : Nat} {cs : Nat × Nat} {σ : Wd} {pc : Nat} {lv : List (Nat × Value)} {st : List Value} {cc : ByteArray} {own : String} {rm : Room} {index : Nat} {g : Int32 → Wd → Option (Int32 × Wd)}  (hO : Ok K cc own nL rm)  (hl : Cond.methodLink own index yX7_readFeeOf ∈ gtb) (hcat : Nat.ble ((st.map fun v => v.category).sum) 8 = true) (hR : RoomOk rm cs 6 130 3) (d : decode cc pc = .ok (.invokevirtual index, 3)) (kk : ∀ (r : Int32) (σ : Wd), Cm K nL cs (g r σ) σ (pc + 3) lv (.int r :: st)) : Cm K nL cs (bd (f_X7_readFeeOf  σ) g) σ pc lv (.ref (K.G.A 102) :: st) := r_cVi hO (c_X7_readFeeOf   σ) cal_X7_readFeeOf hl rfl (by decide) ent_X7 rfl rfl hcat hR d kk
/-! OrderSplitModel.readVenueLine -/
def f_X7_readVenueLine_49    (σ : Wd) : Option (Int32 × Wd) := bd (f_X7_next σ) fun _ σ1 => bd (f_X7_readKind σ1) fun r2 σ3 => bd (f_X7_readPart 9 (1 : Int32) (20 : Int32) σ3) fun r4 σ5 => bd (f_X7_readFeeOf σ5) fun r6 σ7 => bd (f_X7_readPart 11 (0 : Int32) (300 : Int32) σ7) fun r8 σ9 => bd (f_X7_readPart 12 (1 : Int32) (9 : Int32) σ9) fun r10 σ11 => if (σ11.1 102 33) ≤ 0 then (gd (inb (σ11.1 102 19) 5) (nmW (wl σ11 111 (ix (σ11.1 102 19)) (σ.2.1 102 34)) fun σ12 => gd (inb (((5 : Int32) * (σ11.1 102 19)) + (0 : Int32)) 25) (nmW (wi σ12 106 (ix (((5 : Int32) * (σ11.1 102 19)) + (0 : Int32))) r2) fun σ13 => gd (inb (((5 : Int32) * (σ11.1 102 19)) + (1 : Int32)) 25) (nmW (wi σ13 106 (ix (((5 : Int32) * (σ11.1 102 19)) + (1 : Int32))) r4) fun σ14 => gd (inb (((5 : Int32) * (σ11.1 102 19)) + (2 : Int32)) 25) (nmW (wi σ14 106 (ix (((5 : Int32) * (σ11.1 102 19)) + (2 : Int32))) r8) fun σ15 => gd (inb (((5 : Int32) * (σ11.1 102 19)) + (3 : Int32)) 25) (nmW (wi σ15 106 (ix (((5 : Int32) * (σ11.1 102 19)) + (3 : Int32))) r10) fun σ16 => gd (inb (((5 : Int32) * (σ11.1 102 19)) + (4 : Int32)) 25) (nmW (wi σ16 106 (ix (((5 : Int32) * (σ11.1 102 19)) + (4 : Int32))) (0 : Int32)) fun σ17 => gd (inb (σ17.1 102 19) 5) (nmW (wi σ17 110 (ix (σ17.1 102 19)) r6) fun σ18 => nmW (wi σ18 102 19 ((σ18.1 102 19) + (1 : Int32))) fun σ19 => some (0, σ19))))))))) else (some (0, σ11))
def f_X7_readVenueLine_29    (σ : Wd) : Option (Int32 × Wd) := if (σ.1 102 33) = 0 then (bd (f_X7_venueBy σ) fun r1 σ2 => if r1 = (-1 : Int32) then (f_X7_readVenueLine_49 σ2) else (bd (f_X7_flaw (3 : Int32) σ2) fun _ σ3 => (f_X7_readVenueLine_49 σ3))) else (f_X7_readVenueLine_49 σ)
def f_X7_readVenueLine_14   (s1 : Int32) (σ : Wd) : Option (Int32 × Wd) := bd (f_X7_begins s1 σ) fun _ σ1 => bd (f_X7_isName σ1) fun r2 σ3 => if r2 = 0 then (bd (f_X7_flaw (1 : Int32) σ3) fun _ σ4 => (f_X7_readVenueLine_29 σ4)) else (f_X7_readVenueLine_29 σ3)
def f_X7_readVenueLine  (σ : Wd) : Option (Int32 × Wd) := if (σ.1 102 19) = (5 : Int32) then (f_X7_readVenueLine_14 (1 : Int32) σ) else (f_X7_readVenueLine_14 (0 : Int32) σ)
set_option maxRecDepth 20000 in
set_option maxHeartbeats 1000000 in
theorem b_X7_readVenueLine_49 {K : Kt}   (hO : Ok K cX7_readVenueLine RX7 9 rm_X7_readVenueLine) (hR : Rt K none)    (σ : Wd)  : Cm K 9 (0, 0) (f_X7_readVenueLine_49   σ) σ 49 [(0, .ref (K.G.A 102))] [] := by
  refine r_aload_n (i := 0) hO rfl rfl dX7_readVenueLine_49 ?_
  refine gX7_113 hO dX7_readVenueLine_50 ?_
  refine r_lstore_n (i := 1) hO rfl rfl rfl dX7_readVenueLine_53 ?_
  refine r_aload_n (i := 0) hO rfl rfl dX7_readVenueLine_54 ?_
  refine k_X7_next hO a_511 rfl ⟨rfl, rfl, Nat.le_refl _, Nat.le_refl _⟩ dX7_readVenueLine_55 ?_
  intro _ σ1
  refine r_aload_n (i := 0) hO rfl rfl dX7_readVenueLine_58 ?_
  refine k_X7_readKind hO a_546 rfl ⟨rfl, rfl, Nat.le_refl _, Nat.le_refl _⟩ dX7_readVenueLine_59 ?_
  intro r2 σ3
  refine r_istore_n (i := 3) hO rfl rfl rfl dX7_readVenueLine_62 ?_
  refine r_aload_n (i := 0) hO rfl rfl dX7_readVenueLine_63 ?_
  refine r_ldcS hO t_X7_214 dX7_readVenueLine_64 ?_
  refine r_iconst hO ci_1 dX7_readVenueLine_66 ?_
  refine r_bipush hO bi_20 dX7_readVenueLine_67 ?_
  refine k_X7_readPart hO (rfl : Nat.blt 9 13 = true) a_531 rfl ⟨rfl, rfl, Nat.le_refl _, Nat.le_refl _⟩ dX7_readVenueLine_69 ?_
  intro r4 σ5
  refine r_istore hO rfl rfl dX7_readVenueLine_72 ?_
  refine r_aload_n (i := 0) hO rfl rfl dX7_readVenueLine_74 ?_
  refine k_X7_readFeeOf hO a_547 rfl ⟨rfl, rfl, Nat.le_refl _, Nat.le_refl _⟩ dX7_readVenueLine_75 ?_
  intro r6 σ7
  refine r_istore hO rfl rfl dX7_readVenueLine_78 ?_
  refine r_aload_n (i := 0) hO rfl rfl dX7_readVenueLine_80 ?_
  refine r_ldcS hO t_X7_219 dX7_readVenueLine_81 ?_
  refine r_iconst hO ci_0 dX7_readVenueLine_83 ?_
  refine r_sipush hO si_300 dX7_readVenueLine_84 ?_
  refine k_X7_readPart hO (rfl : Nat.blt 11 13 = true) a_531 rfl ⟨rfl, rfl, Nat.le_refl _, Nat.le_refl _⟩ dX7_readVenueLine_87 ?_
  intro r8 σ9
  refine r_istore hO rfl rfl dX7_readVenueLine_90 ?_
  refine r_aload_n (i := 0) hO rfl rfl dX7_readVenueLine_92 ?_
  refine r_ldcS hO t_X7_221 dX7_readVenueLine_93 ?_
  refine r_iconst hO ci_1 dX7_readVenueLine_95 ?_
  refine r_bipush hO bi_9 dX7_readVenueLine_96 ?_
  refine k_X7_readPart hO (rfl : Nat.blt 12 13 = true) a_531 rfl ⟨rfl, rfl, Nat.le_refl _, Nat.le_refl _⟩ dX7_readVenueLine_98 ?_
  intro r10 σ11
  refine r_istore hO rfl rfl dX7_readVenueLine_101 ?_
  refine r_aload_n (i := 0) hO rfl rfl dX7_readVenueLine_103 ?_
  refine gX7_84 hO dX7_readVenueLine_104 ?_
  refine r_if_le (tgt := 111) hO dX7_readVenueLine_107 (by decide) ?_ ?_
  · refine r_iconst hO ci_5 dX7_readVenueLine_111 ?_
    refine r_aload_n (i := 0) hO rfl rfl dX7_readVenueLine_112 ?_
    refine gX7_150 hO dX7_readVenueLine_113 ?_
    refine r_imul hO dX7_readVenueLine_116 ?_
    refine r_istore hO rfl rfl dX7_readVenueLine_117 ?_
    refine r_aload_n (i := 0) hO rfl rfl dX7_readVenueLine_119 ?_
    refine gX7_40 hO dX7_readVenueLine_120 ?_
    refine r_aload_n (i := 0) hO rfl rfl dX7_readVenueLine_123 ?_
    refine gX7_150 hO dX7_readVenueLine_124 ?_
    refine r_lload_n (i := 1) hO rfl rfl dX7_readVenueLine_127 ?_
    refine r_last hO s_111 dX7_readVenueLine_128 ?_
    refine r_nmW fun σ12 => ?_
    refine r_aload_n (i := 0) hO rfl rfl dX7_readVenueLine_129 ?_
    refine gX7_25 hO dX7_readVenueLine_130 ?_
    refine r_iload hO (d := dX7_readVenueLine_133) rfl ?_
    refine r_iconst hO ci_0 dX7_readVenueLine_135 ?_
    refine r_iadd hO dX7_readVenueLine_136 ?_
    refine r_iload_n (i := 3) hO rfl rfl dX7_readVenueLine_137 ?_
    refine r_iast hO s_106 dX7_readVenueLine_138 ?_
    refine r_nmW fun σ13 => ?_
    refine r_aload_n (i := 0) hO rfl rfl dX7_readVenueLine_139 ?_
    refine gX7_25 hO dX7_readVenueLine_140 ?_
    refine r_iload hO (d := dX7_readVenueLine_143) rfl ?_
    refine r_iconst hO ci_1 dX7_readVenueLine_145 ?_
    refine r_iadd hO dX7_readVenueLine_146 ?_
    refine r_iload hO (d := dX7_readVenueLine_147) rfl ?_
    refine r_iast hO s_106 dX7_readVenueLine_149 ?_
    refine r_nmW fun σ14 => ?_
    refine r_aload_n (i := 0) hO rfl rfl dX7_readVenueLine_150 ?_
    refine gX7_25 hO dX7_readVenueLine_151 ?_
    refine r_iload hO (d := dX7_readVenueLine_154) rfl ?_
    refine r_iconst hO ci_2 dX7_readVenueLine_156 ?_
    refine r_iadd hO dX7_readVenueLine_157 ?_
    refine r_iload hO (d := dX7_readVenueLine_158) rfl ?_
    refine r_iast hO s_106 dX7_readVenueLine_160 ?_
    refine r_nmW fun σ15 => ?_
    refine r_aload_n (i := 0) hO rfl rfl dX7_readVenueLine_161 ?_
    refine gX7_25 hO dX7_readVenueLine_162 ?_
    refine r_iload hO (d := dX7_readVenueLine_165) rfl ?_
    refine r_iconst hO ci_3 dX7_readVenueLine_167 ?_
    refine r_iadd hO dX7_readVenueLine_168 ?_
    refine r_iload hO (d := dX7_readVenueLine_169) rfl ?_
    refine r_iast hO s_106 dX7_readVenueLine_171 ?_
    refine r_nmW fun σ16 => ?_
    refine r_aload_n (i := 0) hO rfl rfl dX7_readVenueLine_172 ?_
    refine gX7_25 hO dX7_readVenueLine_173 ?_
    refine r_iload hO (d := dX7_readVenueLine_176) rfl ?_
    refine r_iconst hO ci_4 dX7_readVenueLine_178 ?_
    refine r_iadd hO dX7_readVenueLine_179 ?_
    refine r_iconst hO ci_0 dX7_readVenueLine_180 ?_
    refine r_iast hO s_106 dX7_readVenueLine_181 ?_
    refine r_nmW fun σ17 => ?_
    refine r_aload_n (i := 0) hO rfl rfl dX7_readVenueLine_182 ?_
    refine gX7_37 hO dX7_readVenueLine_183 ?_
    refine r_aload_n (i := 0) hO rfl rfl dX7_readVenueLine_186 ?_
    refine gX7_150 hO dX7_readVenueLine_187 ?_
    refine r_iload hO (d := dX7_readVenueLine_190) rfl ?_
    refine r_iast hO s_110 dX7_readVenueLine_192 ?_
    refine r_nmW fun σ18 => ?_
    refine r_aload_n (i := 0) hO rfl rfl dX7_readVenueLine_193 ?_
    refine r_dup hO rfl dX7_readVenueLine_194 ?_
    refine gX7_150 hO dX7_readVenueLine_195 ?_
    refine r_iconst hO ci_1 dX7_readVenueLine_198 ?_
    refine r_iadd hO dX7_readVenueLine_199 ?_
    refine pX7_150 hO dX7_readVenueLine_200 ?_
    refine r_nmW fun σ19 => ?_
    exact r_vret hO hR dX7_readVenueLine_203
  · exact r_vret hO hR dX7_readVenueLine_110
set_option maxRecDepth 20000 in
set_option maxHeartbeats 1000000 in
theorem b_X7_readVenueLine_29 {K : Kt}   (hO : Ok K cX7_readVenueLine RX7 9 rm_X7_readVenueLine) (hR : Rt K none)    (σ : Wd)  : Cm K 9 (0, 0) (f_X7_readVenueLine_29   σ) σ 29 [(0, .ref (K.G.A 102))] [] := by
  refine r_aload_n (i := 0) hO rfl rfl dX7_readVenueLine_29 ?_
  refine gX7_84 hO dX7_readVenueLine_30 ?_
  refine r_if_ne (tgt := 49) hO dX7_readVenueLine_33 (by decide) ?_ ?_
  · refine r_aload_n (i := 0) hO rfl rfl dX7_readVenueLine_36 ?_
    refine k_X7_venueBy hO a_527 rfl ⟨rfl, rfl, Nat.le_refl _, Nat.le_refl _⟩ dX7_readVenueLine_37 ?_
    intro r1 σ2
    refine r_iconst hO ci_m1 dX7_readVenueLine_40 ?_
    refine r_icmp_eq (tgt := 49) hO dX7_readVenueLine_41 (by decide) ?_ ?_
    · exact r_jmp (b_X7_readVenueLine_49 hO hR σ2) (lsub_c rfl lsub_n)
    · refine r_aload_n (i := 0) hO rfl rfl dX7_readVenueLine_44 ?_
      refine r_iconst hO ci_3 dX7_readVenueLine_45 ?_
      refine k_X7_flaw hO a_510 rfl ⟨rfl, rfl, Nat.le_refl _, Nat.le_refl _⟩ dX7_readVenueLine_46 ?_
      intro _ σ3
      exact r_jmp (b_X7_readVenueLine_49 hO hR σ3) (lsub_c rfl lsub_n)
  · exact r_jmp (b_X7_readVenueLine_49 hO hR σ) (lsub_c rfl lsub_n)
set_option maxRecDepth 20000 in
set_option maxHeartbeats 1000000 in
theorem b_X7_readVenueLine_14 {K : Kt}   (hO : Ok K cX7_readVenueLine RX7 9 rm_X7_readVenueLine) (hR : Rt K none)   (s1 : Int32) (σ : Wd)  : Cm K 9 (0, 0) (f_X7_readVenueLine_14  s1 σ) σ 14 [(0, .ref (K.G.A 102))] [.int s1, .ref (K.G.A 102)] := by
  refine k_X7_begins hO a_545 rfl ⟨rfl, rfl, Nat.le_refl _, Nat.le_refl _⟩ dX7_readVenueLine_14 ?_
  intro _ σ1
  refine r_aload_n (i := 0) hO rfl rfl dX7_readVenueLine_17 ?_
  refine k_X7_isName hO a_526 rfl ⟨rfl, rfl, Nat.le_refl _, Nat.le_refl _⟩ dX7_readVenueLine_18 ?_
  intro r2 σ3
  refine r_if_ne (tgt := 29) hO dX7_readVenueLine_21 (by decide) ?_ ?_
  · refine r_aload_n (i := 0) hO rfl rfl dX7_readVenueLine_24 ?_
    refine r_iconst hO ci_1 dX7_readVenueLine_25 ?_
    refine k_X7_flaw hO a_510 rfl ⟨rfl, rfl, Nat.le_refl _, Nat.le_refl _⟩ dX7_readVenueLine_26 ?_
    intro _ σ4
    exact r_jmp (b_X7_readVenueLine_29 hO hR σ4) (lsub_c rfl lsub_n)
  · exact r_jmp (b_X7_readVenueLine_29 hO hR σ3) (lsub_c rfl lsub_n)
set_option maxRecDepth 20000 in
set_option maxHeartbeats 1000000 in
theorem b_X7_readVenueLine {K : Kt}  (hO : Ok K cX7_readVenueLine RX7 9 rm_X7_readVenueLine) (hR : Rt K none)   (σ : Wd) : Cm K 9 (0, 0) (f_X7_readVenueLine  σ) σ 0 [(0, .ref (K.G.A 102))] [] := by
  refine r_aload_n (i := 0) hO rfl rfl dX7_readVenueLine_0 ?_
  refine r_aload_n (i := 0) hO rfl rfl dX7_readVenueLine_1 ?_
  refine gX7_150 hO dX7_readVenueLine_2 ?_
  refine r_iconst hO ci_5 dX7_readVenueLine_5 ?_
  refine r_icmp_ne (tgt := 13) hO dX7_readVenueLine_6 (by decide) ?_ ?_
  · refine r_iconst hO ci_1 dX7_readVenueLine_9 ?_
    refine r_goto (tgt := 14) hO dX7_readVenueLine_10 (by decide) ?_
    exact r_jmp (b_X7_readVenueLine_14 hO hR (1 : Int32) σ) (lsub_c rfl lsub_n)
  · refine r_iconst hO ci_0 dX7_readVenueLine_13 ?_
    exact r_jmp (b_X7_readVenueLine_14 hO hR (0 : Int32) σ) (lsub_c rfl lsub_n)
theorem c_X7_readVenueLine {l : Launch} {G : Gh}    (σ : Wd) : Con l G yX7_readVenueLine cX7_readVenueLine 9 none 7 153 [.ref (G.A 102)] σ (f_X7_readVenueLine  σ) := Con.of (plainFor_of_name (by decide)) rfl (Nat.le_of_ble_eq_true rfl) (fun K hl hG hO hR => by subst hl; subst hG; exact b_X7_readVenueLine hO hR   σ)
theorem cal_X7_readVenueLine : CalV yX7_readVenueLine cX7_readVenueLine 9 none 0 := ⟨a_548, a_549, a_550, a_464, by decide, by decide, by decide +kernel⟩
theorem k_X7_readVenueLine {K : Kt} {nL : Nat} {cs : Nat × Nat} {σ : Wd} {pc : Nat} {lv : List (Nat × Value)} {st : List Value} {cc : ByteArray} {own : String} {rm : Room} {index : Nat} {g : Int32 → Wd → Option (Int32 × Wd)}  (hO : Ok K cc own nL rm)  (hl : Cond.methodLink own index yX7_readVenueLine ∈ gtb) (hcat : Nat.ble ((st.map fun v => v.category).sum) 8 = true) (hR : RoomOk rm cs 7 153 9) (d : decode cc pc = .ok (.invokevirtual index, 3)) (kk : ∀ (r : Int32) (σ : Wd), Cm K nL cs (g r σ) σ (pc + 3) lv st) : Cm K nL cs (bd (f_X7_readVenueLine  σ) g) σ pc lv (.ref (K.G.A 102) :: st) := r_cVv hO (c_X7_readVenueLine   σ) cal_X7_readVenueLine hl rfl (by decide) ent_X7 rfl rfl hcat hR d kk
/-! OrderSplitModel.readLevelLine -/
def f_X7_readLevelLine_74   (x1 : Int32) (x2 : Int32) (s1 : Int32) (σ : Wd) : Option (Int32 × Wd) := bd (f_X7_readWhole s1 (999 : Int32) σ) fun r1 σ2 => bd (f_X7_readWhole (1 : Int32) (99 : Int32) σ2) fun r3 σ4 => if (σ4.1 102 33) ≤ 0 then (gd (inb (((6 : Int32) * x1) + x2) 30) (nmW (wi σ4 107 (ix (((6 : Int32) * x1) + x2)) r1) fun σ5 => gd (inb (((6 : Int32) * x1) + x2) 30) (nmW (wi σ5 109 (ix (((6 : Int32) * x1) + x2)) r3) fun σ6 => gd (inb (((5 : Int32) * x1) + (4 : Int32)) 25) (gd (inb (((5 : Int32) * x1) + (4 : Int32)) 25) (nmW (wi σ6 106 (ix (((5 : Int32) * x1) + (4 : Int32))) ((σ6.1 106 (ix (((5 : Int32) * x1) + (4 : Int32)))) + (1 : Int32))) fun σ7 => some (0, σ7)))))) else (some (0, σ4))
def f_X7_readLevelLine_55   (x1 : Int32) (x2 : Int32) (σ : Wd) : Option (Int32 × Wd) := (f_X7_readLevelLine_74 x1 x2 (1 : Int32) σ)
def f_X7_readLevelLine_39   (x1 : Int32) (x2 : Int32) (σ : Wd) : Option (Int32 × Wd) := bd (f_X7_next σ) fun _ σ1 => if x2 = 0 then (f_X7_readLevelLine_55 x1 x2 σ1) else (if (σ1.1 102 33) ≤ 0 then (gd (inb ((((6 : Int32) * x1) + x2) - (1 : Int32)) 30) ((f_X7_readLevelLine_74 x1 x2 ((σ1.1 107 (ix ((((6 : Int32) * x1) + x2) - (1 : Int32)))) + (1 : Int32)) σ1))) else (f_X7_readLevelLine_55 x1 x2 σ1))
def f_X7_readLevelLine  (σ : Wd) : Option (Int32 × Wd) := bd (f_X7_begins (0 : Int32) σ) fun _ σ1 => bd (f_X7_knownVenue σ1) fun r2 σ3 => gd (inb (((5 : Int32) * r2) + (4 : Int32)) 25) (if (σ3.1 102 33) = 0 then (if (σ3.1 106 (ix (((5 : Int32) * r2) + (4 : Int32)))) = (6 : Int32) then (bd (f_X7_flaw (5 : Int32) σ3) fun _ σ4 => (f_X7_readLevelLine_39 r2 (σ3.1 106 (ix (((5 : Int32) * r2) + (4 : Int32)))) σ4)) else (f_X7_readLevelLine_39 r2 (σ3.1 106 (ix (((5 : Int32) * r2) + (4 : Int32)))) σ3)) else (f_X7_readLevelLine_39 r2 (σ3.1 106 (ix (((5 : Int32) * r2) + (4 : Int32)))) σ3))
set_option maxRecDepth 20000 in
set_option maxHeartbeats 1000000 in
theorem b_X7_readLevelLine_74 {K : Kt}   (hO : Ok K cX7_readLevelLine RX7 5 rm_X7_readLevelLine) (hR : Rt K none)   (x1 : Int32) (x2 : Int32) (s1 : Int32) (σ : Wd)  : Cm K 5 (0, 0) (f_X7_readLevelLine_74  x1 x2 s1 σ) σ 74 [(0, .ref (K.G.A 102)), (1, .int x1), (2, .int x2)] [.int s1, .ref (K.G.A 102)] := by
  refine r_sipush hO si_999 dX7_readLevelLine_74 ?_
  refine k_X7_readWhole hO a_516 rfl ⟨rfl, rfl, Nat.le_refl _, Nat.le_refl _⟩ dX7_readLevelLine_77 ?_
  intro r1 σ2
  refine r_istore_n (i := 3) hO rfl rfl rfl dX7_readLevelLine_80 ?_
  refine r_aload_n (i := 0) hO rfl rfl dX7_readLevelLine_81 ?_
  refine r_iconst hO ci_1 dX7_readLevelLine_82 ?_
  refine r_bipush hO bi_99 dX7_readLevelLine_83 ?_
  refine k_X7_readWhole hO a_516 rfl ⟨rfl, rfl, Nat.le_refl _, Nat.le_refl _⟩ dX7_readLevelLine_85 ?_
  intro r3 σ4
  refine r_istore hO rfl rfl dX7_readLevelLine_88 ?_
  refine r_aload_n (i := 0) hO rfl rfl dX7_readLevelLine_90 ?_
  refine gX7_84 hO dX7_readLevelLine_91 ?_
  refine r_if_le (tgt := 98) hO dX7_readLevelLine_94 (by decide) ?_ ?_
  · refine r_aload_n (i := 0) hO rfl rfl dX7_readLevelLine_98 ?_
    refine gX7_28 hO dX7_readLevelLine_99 ?_
    refine r_bipush hO bi_6 dX7_readLevelLine_102 ?_
    refine r_iload_n (i := 1) hO rfl rfl dX7_readLevelLine_104 ?_
    refine r_imul hO dX7_readLevelLine_105 ?_
    refine r_iload_n (i := 2) hO rfl rfl dX7_readLevelLine_106 ?_
    refine r_iadd hO dX7_readLevelLine_107 ?_
    refine r_iload_n (i := 3) hO rfl rfl dX7_readLevelLine_108 ?_
    refine r_iast hO s_107 dX7_readLevelLine_109 ?_
    refine r_nmW fun σ5 => ?_
    refine r_aload_n (i := 0) hO rfl rfl dX7_readLevelLine_110 ?_
    refine gX7_34 hO dX7_readLevelLine_111 ?_
    refine r_bipush hO bi_6 dX7_readLevelLine_114 ?_
    refine r_iload_n (i := 1) hO rfl rfl dX7_readLevelLine_116 ?_
    refine r_imul hO dX7_readLevelLine_117 ?_
    refine r_iload_n (i := 2) hO rfl rfl dX7_readLevelLine_118 ?_
    refine r_iadd hO dX7_readLevelLine_119 ?_
    refine r_iload hO (d := dX7_readLevelLine_120) rfl ?_
    refine r_iast hO s_109 dX7_readLevelLine_122 ?_
    refine r_nmW fun σ6 => ?_
    refine r_aload_n (i := 0) hO rfl rfl dX7_readLevelLine_123 ?_
    refine gX7_25 hO dX7_readLevelLine_124 ?_
    refine r_iconst hO ci_5 dX7_readLevelLine_127 ?_
    refine r_iload_n (i := 1) hO rfl rfl dX7_readLevelLine_128 ?_
    refine r_imul hO dX7_readLevelLine_129 ?_
    refine r_iconst hO ci_4 dX7_readLevelLine_130 ?_
    refine r_iadd hO dX7_readLevelLine_131 ?_
    refine r_dup2 hO rfl rfl dX7_readLevelLine_132 ?_
    refine r_iald hO s_106 dX7_readLevelLine_133 ?_
    refine r_iconst hO ci_1 dX7_readLevelLine_134 ?_
    refine r_iadd hO dX7_readLevelLine_135 ?_
    refine r_iast hO s_106 dX7_readLevelLine_136 ?_
    refine r_nmW fun σ7 => ?_
    exact r_vret hO hR dX7_readLevelLine_137
  · exact r_vret hO hR dX7_readLevelLine_97
set_option maxRecDepth 20000 in
set_option maxHeartbeats 1000000 in
theorem b_X7_readLevelLine_55 {K : Kt}   (hO : Ok K cX7_readLevelLine RX7 5 rm_X7_readLevelLine) (hR : Rt K none)   (x1 : Int32) (x2 : Int32) (σ : Wd)  : Cm K 5 (0, 0) (f_X7_readLevelLine_55  x1 x2 σ) σ 55 [(0, .ref (K.G.A 102)), (1, .int x1), (2, .int x2)] [.ref (K.G.A 102)] := by
  refine r_iconst hO ci_1 dX7_readLevelLine_55 ?_
  refine r_goto (tgt := 74) hO dX7_readLevelLine_56 (by decide) ?_
  exact r_jmp (b_X7_readLevelLine_74 hO hR x1 x2 (1 : Int32) σ) (lsub_c rfl (lsub_c rfl (lsub_c rfl lsub_n)))
set_option maxRecDepth 20000 in
set_option maxHeartbeats 1000000 in
theorem b_X7_readLevelLine_39 {K : Kt}   (hO : Ok K cX7_readLevelLine RX7 5 rm_X7_readLevelLine) (hR : Rt K none)   (x1 : Int32) (x2 : Int32) (σ : Wd)  : Cm K 5 (0, 0) (f_X7_readLevelLine_39  x1 x2 σ) σ 39 [(0, .ref (K.G.A 102)), (1, .int x1), (2, .int x2)] [] := by
  refine r_aload_n (i := 0) hO rfl rfl dX7_readLevelLine_39 ?_
  refine k_X7_next hO a_511 rfl ⟨rfl, rfl, Nat.le_refl _, Nat.le_refl _⟩ dX7_readLevelLine_40 ?_
  intro _ σ1
  refine r_aload_n (i := 0) hO rfl rfl dX7_readLevelLine_43 ?_
  refine r_iload_n (i := 2) hO rfl rfl dX7_readLevelLine_44 ?_
  refine r_if_eq (tgt := 55) hO dX7_readLevelLine_45 (by decide) ?_ ?_
  · exact r_jmp (b_X7_readLevelLine_55 hO hR x1 x2 σ1) (lsub_c rfl (lsub_c rfl (lsub_c rfl lsub_n)))
  · refine r_aload_n (i := 0) hO rfl rfl dX7_readLevelLine_48 ?_
    refine gX7_84 hO dX7_readLevelLine_49 ?_
    refine r_if_le (tgt := 59) hO dX7_readLevelLine_52 (by decide) ?_ ?_
    · refine r_aload_n (i := 0) hO rfl rfl dX7_readLevelLine_59 ?_
      refine gX7_28 hO dX7_readLevelLine_60 ?_
      refine r_bipush hO bi_6 dX7_readLevelLine_63 ?_
      refine r_iload_n (i := 1) hO rfl rfl dX7_readLevelLine_65 ?_
      refine r_imul hO dX7_readLevelLine_66 ?_
      refine r_iload_n (i := 2) hO rfl rfl dX7_readLevelLine_67 ?_
      refine r_iadd hO dX7_readLevelLine_68 ?_
      refine r_iconst hO ci_1 dX7_readLevelLine_69 ?_
      refine r_isub hO dX7_readLevelLine_70 ?_
      refine r_iald hO s_107 dX7_readLevelLine_71 ?_
      refine r_iconst hO ci_1 dX7_readLevelLine_72 ?_
      refine r_iadd hO dX7_readLevelLine_73 ?_
      exact r_jmp (b_X7_readLevelLine_74 hO hR x1 x2 ((σ1.1 107 (ix ((((6 : Int32) * x1) + x2) - (1 : Int32)))) + (1 : Int32)) σ1) (lsub_c rfl (lsub_c rfl (lsub_c rfl lsub_n)))
    · exact r_jmp (b_X7_readLevelLine_55 hO hR x1 x2 σ1) (lsub_c rfl (lsub_c rfl (lsub_c rfl lsub_n)))
set_option maxRecDepth 20000 in
set_option maxHeartbeats 1000000 in
theorem b_X7_readLevelLine {K : Kt}  (hO : Ok K cX7_readLevelLine RX7 5 rm_X7_readLevelLine) (hR : Rt K none)   (σ : Wd) : Cm K 5 (0, 0) (f_X7_readLevelLine  σ) σ 0 [(0, .ref (K.G.A 102))] [] := by
  refine r_aload_n (i := 0) hO rfl rfl dX7_readLevelLine_0 ?_
  refine r_iconst hO ci_0 dX7_readLevelLine_1 ?_
  refine k_X7_begins hO a_545 rfl ⟨rfl, rfl, Nat.le_refl _, Nat.le_refl _⟩ dX7_readLevelLine_2 ?_
  intro _ σ1
  refine r_aload_n (i := 0) hO rfl rfl dX7_readLevelLine_5 ?_
  refine k_X7_knownVenue hO a_551 rfl ⟨rfl, rfl, Nat.le_refl _, Nat.le_refl _⟩ dX7_readLevelLine_6 ?_
  intro r2 σ3
  refine r_istore_n (i := 1) hO rfl rfl rfl dX7_readLevelLine_9 ?_
  refine r_aload_n (i := 0) hO rfl rfl dX7_readLevelLine_10 ?_
  refine gX7_25 hO dX7_readLevelLine_11 ?_
  refine r_iconst hO ci_5 dX7_readLevelLine_14 ?_
  refine r_iload_n (i := 1) hO rfl rfl dX7_readLevelLine_15 ?_
  refine r_imul hO dX7_readLevelLine_16 ?_
  refine r_iconst hO ci_4 dX7_readLevelLine_17 ?_
  refine r_iadd hO dX7_readLevelLine_18 ?_
  refine r_iald hO s_106 dX7_readLevelLine_19 ?_
  refine r_istore_n (i := 2) hO rfl rfl rfl dX7_readLevelLine_20 ?_
  refine r_aload_n (i := 0) hO rfl rfl dX7_readLevelLine_21 ?_
  refine gX7_84 hO dX7_readLevelLine_22 ?_
  refine r_if_ne (tgt := 39) hO dX7_readLevelLine_25 (by decide) ?_ ?_
  · refine r_iload_n (i := 2) hO rfl rfl dX7_readLevelLine_28 ?_
    refine r_bipush hO bi_6 dX7_readLevelLine_29 ?_
    refine r_icmp_ne (tgt := 39) hO dX7_readLevelLine_31 (by decide) ?_ ?_
    · refine r_aload_n (i := 0) hO rfl rfl dX7_readLevelLine_34 ?_
      refine r_iconst hO ci_5 dX7_readLevelLine_35 ?_
      refine k_X7_flaw hO a_510 rfl ⟨rfl, rfl, Nat.le_refl _, Nat.le_refl _⟩ dX7_readLevelLine_36 ?_
      intro _ σ4
      exact r_jmp (b_X7_readLevelLine_39 hO hR r2 (σ3.1 106 (ix (((5 : Int32) * r2) + (4 : Int32)))) σ4) (lsub_c rfl (lsub_c rfl (lsub_c rfl lsub_n)))
    · exact r_jmp (b_X7_readLevelLine_39 hO hR r2 (σ3.1 106 (ix (((5 : Int32) * r2) + (4 : Int32)))) σ3) (lsub_c rfl (lsub_c rfl (lsub_c rfl lsub_n)))
  · exact r_jmp (b_X7_readLevelLine_39 hO hR r2 (σ3.1 106 (ix (((5 : Int32) * r2) + (4 : Int32)))) σ3) (lsub_c rfl (lsub_c rfl (lsub_c rfl lsub_n)))
theorem c_X7_readLevelLine {l : Launch} {G : Gh}    (σ : Wd) : Con l G yX7_readLevelLine cX7_readLevelLine 5 none 8 171 [.ref (G.A 102)] σ (f_X7_readLevelLine  σ) := Con.of (plainFor_of_name (by decide)) rfl (Nat.le_of_ble_eq_true rfl) (fun K hl hG hO hR => by subst hl; subst hG; exact b_X7_readLevelLine hO hR   σ)
theorem cal_X7_readLevelLine : CalV yX7_readLevelLine cX7_readLevelLine 5 none 0 := ⟨a_552, a_553, a_554, a_464, by decide, by decide, by decide +kernel⟩
theorem k_X7_readLevelLine {K : Kt} {nL : Nat} {cs : Nat × Nat} {σ : Wd} {pc : Nat} {lv : List (Nat × Value)} {st : List Value} {cc : ByteArray} {own : String} {rm : Room} {index : Nat} {g : Int32 → Wd → Option (Int32 × Wd)}  (hO : Ok K cc own nL rm)  (hl : Cond.methodLink own index yX7_readLevelLine ∈ gtb) (hcat : Nat.ble ((st.map fun v => v.category).sum) 8 = true) (hR : RoomOk rm cs 8 171 5) (d : decode cc pc = .ok (.invokevirtual index, 3)) (kk : ∀ (r : Int32) (σ : Wd), Cm K nL cs (g r σ) σ (pc + 3) lv st) : Cm K nL cs (bd (f_X7_readLevelLine  σ) g) σ pc lv (.ref (K.G.A 102) :: st) := r_cVv hO (c_X7_readLevelLine   σ) cal_X7_readLevelLine hl rfl (by decide) ent_X7 rfl rfl hcat hR d kk
/-! OrderSplitModel.readEventLine -/
def f_X7_readEventLine_43   (s1 : Int32) (σ : Wd) : Option (Int32 × Wd) := bd (f_X7_readWhole s1 (200 : Int32) σ) fun r1 σ2 => bd (f_X7_knownVenue σ2) fun r3 σ4 => bd (f_X7_next σ4) fun _ σ5 => gd (inb (((5 : Int32) * r3) + (4 : Int32)) 25) (bd (f_X7_readWhole (0 : Int32) ((σ5.1 106 (ix (((5 : Int32) * r3) + (4 : Int32)))) - (1 : Int32)) σ5) fun r6 σ7 => bd (f_X7_readWhole (0 : Int32) (99 : Int32) σ7) fun r8 σ9 => if (σ9.1 102 33) ≤ 0 then (gd (inb ((4 : Int32) * (σ9.1 102 20)) 40) (nmW (wi σ9 108 (ix ((4 : Int32) * (σ9.1 102 20))) r1) fun σ10 => gd (inb (((4 : Int32) * (σ9.1 102 20)) + (1 : Int32)) 40) (nmW (wi σ10 108 (ix (((4 : Int32) * (σ9.1 102 20)) + (1 : Int32))) r3) fun σ11 => gd (inb (((4 : Int32) * (σ9.1 102 20)) + (2 : Int32)) 40) (nmW (wi σ11 108 (ix (((4 : Int32) * (σ9.1 102 20)) + (2 : Int32))) r6) fun σ12 => gd (inb (((4 : Int32) * (σ9.1 102 20)) + (3 : Int32)) 40) (nmW (wi σ12 108 (ix (((4 : Int32) * (σ9.1 102 20)) + (3 : Int32))) r8) fun σ13 => nmW (wi σ13 102 20 ((σ13.1 102 20) + (1 : Int32))) fun σ14 => some (0, σ14)))))) else (some (0, σ9)))
def f_X7_readEventLine_15   (s1 : Int32) (σ : Wd) : Option (Int32 × Wd) := bd (f_X7_begins s1 σ) fun _ σ1 => if (σ1.1 102 20) = 0 then (f_X7_readEventLine_43 (1 : Int32) σ1) else (gd (inb (((4 : Int32) * (σ1.1 102 20)) - (4 : Int32)) 40) ((f_X7_readEventLine_43 (σ1.1 108 (ix (((4 : Int32) * (σ1.1 102 20)) - (4 : Int32)))) σ1)))
def f_X7_readEventLine  (σ : Wd) : Option (Int32 × Wd) := if (σ.1 102 20) = (10 : Int32) then (f_X7_readEventLine_15 (1 : Int32) σ) else (f_X7_readEventLine_15 (0 : Int32) σ)
set_option maxRecDepth 20000 in
set_option maxHeartbeats 1000000 in
theorem b_X7_readEventLine_43 {K : Kt}   (hO : Ok K cX7_readEventLine RX7 6 rm_X7_readEventLine) (hR : Rt K none)   (s1 : Int32) (σ : Wd)  : Cm K 6 (0, 0) (f_X7_readEventLine_43  s1 σ) σ 43 [(0, .ref (K.G.A 102))] [.int s1, .ref (K.G.A 102)] := by
  refine r_sipush hO si_200 dX7_readEventLine_43 ?_
  refine k_X7_readWhole hO a_516 rfl ⟨rfl, rfl, Nat.le_refl _, Nat.le_refl _⟩ dX7_readEventLine_46 ?_
  intro r1 σ2
  refine r_istore_n (i := 1) hO rfl rfl rfl dX7_readEventLine_49 ?_
  refine r_aload_n (i := 0) hO rfl rfl dX7_readEventLine_50 ?_
  refine k_X7_knownVenue hO a_551 rfl ⟨rfl, rfl, Nat.le_refl _, Nat.le_refl _⟩ dX7_readEventLine_51 ?_
  intro r3 σ4
  refine r_istore_n (i := 2) hO rfl rfl rfl dX7_readEventLine_54 ?_
  refine r_aload_n (i := 0) hO rfl rfl dX7_readEventLine_55 ?_
  refine k_X7_next hO a_511 rfl ⟨rfl, rfl, Nat.le_refl _, Nat.le_refl _⟩ dX7_readEventLine_56 ?_
  intro _ σ5
  refine r_aload_n (i := 0) hO rfl rfl dX7_readEventLine_59 ?_
  refine r_iconst hO ci_0 dX7_readEventLine_60 ?_
  refine r_aload_n (i := 0) hO rfl rfl dX7_readEventLine_61 ?_
  refine gX7_25 hO dX7_readEventLine_62 ?_
  refine r_iconst hO ci_5 dX7_readEventLine_65 ?_
  refine r_iload_n (i := 2) hO rfl rfl dX7_readEventLine_66 ?_
  refine r_imul hO dX7_readEventLine_67 ?_
  refine r_iconst hO ci_4 dX7_readEventLine_68 ?_
  refine r_iadd hO dX7_readEventLine_69 ?_
  refine r_iald hO s_106 dX7_readEventLine_70 ?_
  refine r_iconst hO ci_1 dX7_readEventLine_71 ?_
  refine r_isub hO dX7_readEventLine_72 ?_
  refine k_X7_readWhole hO a_516 rfl ⟨rfl, rfl, Nat.le_refl _, Nat.le_refl _⟩ dX7_readEventLine_73 ?_
  intro r6 σ7
  refine r_istore_n (i := 3) hO rfl rfl rfl dX7_readEventLine_76 ?_
  refine r_aload_n (i := 0) hO rfl rfl dX7_readEventLine_77 ?_
  refine r_iconst hO ci_0 dX7_readEventLine_78 ?_
  refine r_bipush hO bi_99 dX7_readEventLine_79 ?_
  refine k_X7_readWhole hO a_516 rfl ⟨rfl, rfl, Nat.le_refl _, Nat.le_refl _⟩ dX7_readEventLine_81 ?_
  intro r8 σ9
  refine r_istore hO rfl rfl dX7_readEventLine_84 ?_
  refine r_aload_n (i := 0) hO rfl rfl dX7_readEventLine_86 ?_
  refine gX7_84 hO dX7_readEventLine_87 ?_
  refine r_if_le (tgt := 94) hO dX7_readEventLine_90 (by decide) ?_ ?_
  · refine r_iconst hO ci_4 dX7_readEventLine_94 ?_
    refine r_aload_n (i := 0) hO rfl rfl dX7_readEventLine_95 ?_
    refine gX7_163 hO dX7_readEventLine_96 ?_
    refine r_imul hO dX7_readEventLine_99 ?_
    refine r_istore hO rfl rfl dX7_readEventLine_100 ?_
    refine r_aload_n (i := 0) hO rfl rfl dX7_readEventLine_102 ?_
    refine gX7_31 hO dX7_readEventLine_103 ?_
    refine r_iload hO (d := dX7_readEventLine_106) rfl ?_
    refine r_iload_n (i := 1) hO rfl rfl dX7_readEventLine_108 ?_
    refine r_iast hO s_108 dX7_readEventLine_109 ?_
    refine r_nmW fun σ10 => ?_
    refine r_aload_n (i := 0) hO rfl rfl dX7_readEventLine_110 ?_
    refine gX7_31 hO dX7_readEventLine_111 ?_
    refine r_iload hO (d := dX7_readEventLine_114) rfl ?_
    refine r_iconst hO ci_1 dX7_readEventLine_116 ?_
    refine r_iadd hO dX7_readEventLine_117 ?_
    refine r_iload_n (i := 2) hO rfl rfl dX7_readEventLine_118 ?_
    refine r_iast hO s_108 dX7_readEventLine_119 ?_
    refine r_nmW fun σ11 => ?_
    refine r_aload_n (i := 0) hO rfl rfl dX7_readEventLine_120 ?_
    refine gX7_31 hO dX7_readEventLine_121 ?_
    refine r_iload hO (d := dX7_readEventLine_124) rfl ?_
    refine r_iconst hO ci_2 dX7_readEventLine_126 ?_
    refine r_iadd hO dX7_readEventLine_127 ?_
    refine r_iload_n (i := 3) hO rfl rfl dX7_readEventLine_128 ?_
    refine r_iast hO s_108 dX7_readEventLine_129 ?_
    refine r_nmW fun σ12 => ?_
    refine r_aload_n (i := 0) hO rfl rfl dX7_readEventLine_130 ?_
    refine gX7_31 hO dX7_readEventLine_131 ?_
    refine r_iload hO (d := dX7_readEventLine_134) rfl ?_
    refine r_iconst hO ci_3 dX7_readEventLine_136 ?_
    refine r_iadd hO dX7_readEventLine_137 ?_
    refine r_iload hO (d := dX7_readEventLine_138) rfl ?_
    refine r_iast hO s_108 dX7_readEventLine_140 ?_
    refine r_nmW fun σ13 => ?_
    refine r_aload_n (i := 0) hO rfl rfl dX7_readEventLine_141 ?_
    refine r_dup hO rfl dX7_readEventLine_142 ?_
    refine gX7_163 hO dX7_readEventLine_143 ?_
    refine r_iconst hO ci_1 dX7_readEventLine_146 ?_
    refine r_iadd hO dX7_readEventLine_147 ?_
    refine pX7_163 hO dX7_readEventLine_148 ?_
    refine r_nmW fun σ14 => ?_
    exact r_vret hO hR dX7_readEventLine_151
  · exact r_vret hO hR dX7_readEventLine_93
set_option maxRecDepth 20000 in
set_option maxHeartbeats 1000000 in
theorem b_X7_readEventLine_15 {K : Kt}   (hO : Ok K cX7_readEventLine RX7 6 rm_X7_readEventLine) (hR : Rt K none)   (s1 : Int32) (σ : Wd)  : Cm K 6 (0, 0) (f_X7_readEventLine_15  s1 σ) σ 15 [(0, .ref (K.G.A 102))] [.int s1, .ref (K.G.A 102)] := by
  refine k_X7_begins hO a_545 rfl ⟨rfl, rfl, Nat.le_refl _, Nat.le_refl _⟩ dX7_readEventLine_15 ?_
  intro _ σ1
  refine r_aload_n (i := 0) hO rfl rfl dX7_readEventLine_18 ?_
  refine r_aload_n (i := 0) hO rfl rfl dX7_readEventLine_19 ?_
  refine gX7_163 hO dX7_readEventLine_20 ?_
  refine r_if_ne (tgt := 30) hO dX7_readEventLine_23 (by decide) ?_ ?_
  · refine r_iconst hO ci_1 dX7_readEventLine_26 ?_
    refine r_goto (tgt := 43) hO dX7_readEventLine_27 (by decide) ?_
    exact r_jmp (b_X7_readEventLine_43 hO hR (1 : Int32) σ1) (lsub_c rfl lsub_n)
  · refine r_aload_n (i := 0) hO rfl rfl dX7_readEventLine_30 ?_
    refine gX7_31 hO dX7_readEventLine_31 ?_
    refine r_iconst hO ci_4 dX7_readEventLine_34 ?_
    refine r_aload_n (i := 0) hO rfl rfl dX7_readEventLine_35 ?_
    refine gX7_163 hO dX7_readEventLine_36 ?_
    refine r_imul hO dX7_readEventLine_39 ?_
    refine r_iconst hO ci_4 dX7_readEventLine_40 ?_
    refine r_isub hO dX7_readEventLine_41 ?_
    refine r_iald hO s_108 dX7_readEventLine_42 ?_
    exact r_jmp (b_X7_readEventLine_43 hO hR (σ1.1 108 (ix (((4 : Int32) * (σ1.1 102 20)) - (4 : Int32)))) σ1) (lsub_c rfl lsub_n)
set_option maxRecDepth 20000 in
set_option maxHeartbeats 1000000 in
theorem b_X7_readEventLine {K : Kt}  (hO : Ok K cX7_readEventLine RX7 6 rm_X7_readEventLine) (hR : Rt K none)   (σ : Wd) : Cm K 6 (0, 0) (f_X7_readEventLine  σ) σ 0 [(0, .ref (K.G.A 102))] [] := by
  refine r_aload_n (i := 0) hO rfl rfl dX7_readEventLine_0 ?_
  refine r_aload_n (i := 0) hO rfl rfl dX7_readEventLine_1 ?_
  refine gX7_163 hO dX7_readEventLine_2 ?_
  refine r_bipush hO bi_10 dX7_readEventLine_5 ?_
  refine r_icmp_ne (tgt := 14) hO dX7_readEventLine_7 (by decide) ?_ ?_
  · refine r_iconst hO ci_1 dX7_readEventLine_10 ?_
    refine r_goto (tgt := 15) hO dX7_readEventLine_11 (by decide) ?_
    exact r_jmp (b_X7_readEventLine_15 hO hR (1 : Int32) σ) (lsub_c rfl lsub_n)
  · refine r_iconst hO ci_0 dX7_readEventLine_14 ?_
    exact r_jmp (b_X7_readEventLine_15 hO hR (0 : Int32) σ) (lsub_c rfl lsub_n)
theorem c_X7_readEventLine {l : Launch} {G : Gh}    (σ : Wd) : Con l G yX7_readEventLine cX7_readEventLine 6 none 8 171 [.ref (G.A 102)] σ (f_X7_readEventLine  σ) := Con.of (plainFor_of_name (by decide)) rfl (Nat.le_of_ble_eq_true rfl) (fun K hl hG hO hR => by subst hl; subst hG; exact b_X7_readEventLine hO hR   σ)
theorem cal_X7_readEventLine : CalV yX7_readEventLine cX7_readEventLine 6 none 0 := ⟨a_555, a_556, a_557, a_464, by decide, by decide, by decide +kernel⟩
theorem k_X7_readEventLine {K : Kt} {nL : Nat} {cs : Nat × Nat} {σ : Wd} {pc : Nat} {lv : List (Nat × Value)} {st : List Value} {cc : ByteArray} {own : String} {rm : Room} {index : Nat} {g : Int32 → Wd → Option (Int32 × Wd)}  (hO : Ok K cc own nL rm)  (hl : Cond.methodLink own index yX7_readEventLine ∈ gtb) (hcat : Nat.ble ((st.map fun v => v.category).sum) 8 = true) (hR : RoomOk rm cs 8 171 6) (d : decode cc pc = .ok (.invokevirtual index, 3)) (kk : ∀ (r : Int32) (σ : Wd), Cm K nL cs (g r σ) σ (pc + 3) lv st) : Cm K nL cs (bd (f_X7_readEventLine  σ) g) σ pc lv (.ref (K.G.A 102) :: st) := r_cVv hO (c_X7_readEventLine   σ) cal_X7_readEventLine hl rfl (by decide) ent_X7 rfl rfl hcat hR d kk
/-! OrderSplitModel.readLine -/
def f_X7_readLine_69    (σ : Wd) : Option (Int32 × Wd) := some (0, σ)
def f_X7_readLine  (σ : Wd) : Option (Int32 × Wd) := bd (f_X7_isWord 0 σ) fun r1 σ2 => if r1 = 0 then (bd (f_X7_isWord 1 σ2) fun r3 σ4 => if r3 = 0 then (bd (f_X7_isWord 2 σ4) fun r5 σ6 => if r5 = 0 then (bd (f_X7_isWord 3 σ6) fun r7 σ8 => if r7 = 0 then (bd (f_X7_flaw (1 : Int32) σ8) fun _ σ9 => (f_X7_readLine_69 σ9)) else (bd (f_X7_readEventLine σ8) fun _ σ10 => (f_X7_readLine_69 σ10))) else (bd (f_X7_readLevelLine σ6) fun _ σ11 => (f_X7_readLine_69 σ11))) else (bd (f_X7_readVenueLine σ4) fun _ σ12 => (f_X7_readLine_69 σ12))) else (bd (f_X7_readOrderLine σ2) fun _ σ13 => (f_X7_readLine_69 σ13))
set_option maxRecDepth 20000 in
set_option maxHeartbeats 1000000 in
theorem b_X7_readLine_69 {K : Kt}   (hO : Ok K cX7_readLine RX7 1 rm_X7_readLine) (hR : Rt K none)    (σ : Wd)  : Cm K 1 (0, 0) (f_X7_readLine_69   σ) σ 69 [] [] := by
  exact r_vret hO hR dX7_readLine_69
set_option maxRecDepth 20000 in
set_option maxHeartbeats 1000000 in
theorem b_X7_readLine {K : Kt}  (hO : Ok K cX7_readLine RX7 1 rm_X7_readLine) (hR : Rt K none)   (σ : Wd) : Cm K 1 (0, 0) (f_X7_readLine  σ) σ 0 [(0, .ref (K.G.A 102))] [] := by
  refine r_aload_n (i := 0) hO rfl rfl dX7_readLine_0 ?_
  refine r_ldcS hO t_X7_144 dX7_readLine_1 ?_
  refine k_X7_isWord hO (rfl : Nat.blt 0 13 = true) a_515 rfl ⟨rfl, rfl, Nat.le_refl _, Nat.le_refl _⟩ dX7_readLine_3 ?_
  intro r1 σ2
  refine r_if_eq (tgt := 16) hO dX7_readLine_6 (by decide) ?_ ?_
  · refine r_aload_n (i := 0) hO rfl rfl dX7_readLine_16 ?_
    refine r_ldcS hO t_X7_146 dX7_readLine_17 ?_
    refine k_X7_isWord hO (rfl : Nat.blt 1 13 = true) a_515 rfl ⟨rfl, rfl, Nat.le_refl _, Nat.le_refl _⟩ dX7_readLine_19 ?_
    intro r3 σ4
    refine r_if_eq (tgt := 32) hO dX7_readLine_22 (by decide) ?_ ?_
    · refine r_aload_n (i := 0) hO rfl rfl dX7_readLine_32 ?_
      refine r_ldcS hO t_X7_147 dX7_readLine_33 ?_
      refine k_X7_isWord hO (rfl : Nat.blt 2 13 = true) a_515 rfl ⟨rfl, rfl, Nat.le_refl _, Nat.le_refl _⟩ dX7_readLine_35 ?_
      intro r5 σ6
      refine r_if_eq (tgt := 48) hO dX7_readLine_38 (by decide) ?_ ?_
      · refine r_aload_n (i := 0) hO rfl rfl dX7_readLine_48 ?_
        refine r_ldcS hO t_X7_149 dX7_readLine_49 ?_
        refine k_X7_isWord hO (rfl : Nat.blt 3 13 = true) a_515 rfl ⟨rfl, rfl, Nat.le_refl _, Nat.le_refl _⟩ dX7_readLine_51 ?_
        intro r7 σ8
        refine r_if_eq (tgt := 64) hO dX7_readLine_54 (by decide) ?_ ?_
        · refine r_aload_n (i := 0) hO rfl rfl dX7_readLine_64 ?_
          refine r_iconst hO ci_1 dX7_readLine_65 ?_
          refine k_X7_flaw hO a_510 rfl ⟨rfl, rfl, Nat.le_refl _, Nat.le_refl _⟩ dX7_readLine_66 ?_
          intro _ σ9
          exact r_jmp (b_X7_readLine_69 hO hR σ9) lsub_n
        · refine r_aload_n (i := 0) hO rfl rfl dX7_readLine_57 ?_
          refine k_X7_readEventLine hO a_558 rfl ⟨rfl, rfl, Nat.le_refl _, Nat.le_refl _⟩ dX7_readLine_58 ?_
          intro _ σ10
          refine r_goto (tgt := 69) hO dX7_readLine_61 (by decide) ?_
          exact r_jmp (b_X7_readLine_69 hO hR σ10) lsub_n
      · refine r_aload_n (i := 0) hO rfl rfl dX7_readLine_41 ?_
        refine k_X7_readLevelLine hO a_559 rfl ⟨rfl, rfl, Nat.le_refl _, Nat.le_refl _⟩ dX7_readLine_42 ?_
        intro _ σ11
        refine r_goto (tgt := 69) hO dX7_readLine_45 (by decide) ?_
        exact r_jmp (b_X7_readLine_69 hO hR σ11) lsub_n
    · refine r_aload_n (i := 0) hO rfl rfl dX7_readLine_25 ?_
      refine k_X7_readVenueLine hO a_560 rfl ⟨rfl, rfl, Nat.le_refl _, Nat.le_refl _⟩ dX7_readLine_26 ?_
      intro _ σ12
      refine r_goto (tgt := 69) hO dX7_readLine_29 (by decide) ?_
      exact r_jmp (b_X7_readLine_69 hO hR σ12) lsub_n
  · refine r_aload_n (i := 0) hO rfl rfl dX7_readLine_9 ?_
    refine k_X7_readOrderLine hO a_561 rfl ⟨rfl, rfl, Nat.le_refl _, Nat.le_refl _⟩ dX7_readLine_10 ?_
    intro _ σ13
    refine r_goto (tgt := 69) hO dX7_readLine_13 (by decide) ?_
    exact r_jmp (b_X7_readLine_69 hO hR σ13) lsub_n
theorem c_X7_readLine {l : Launch} {G : Gh}    (σ : Wd) : Con l G yX7_readLine cX7_readLine 1 none 9 196 [.ref (G.A 102)] σ (f_X7_readLine  σ) := Con.of (plainFor_of_name (by decide)) rfl (Nat.le_of_ble_eq_true rfl) (fun K hl hG hO hR => by subst hl; subst hG; exact b_X7_readLine hO hR   σ)
theorem cal_X7_readLine : CalV yX7_readLine cX7_readLine 1 none 0 := ⟨a_562, a_563, a_564, a_464, by decide, by decide, by decide +kernel⟩
theorem k_X7_readLine {K : Kt} {nL : Nat} {cs : Nat × Nat} {σ : Wd} {pc : Nat} {lv : List (Nat × Value)} {st : List Value} {cc : ByteArray} {own : String} {rm : Room} {index : Nat} {g : Int32 → Wd → Option (Int32 × Wd)}  (hO : Ok K cc own nL rm)  (hl : Cond.methodLink own index yX7_readLine ∈ gtb) (hcat : Nat.ble ((st.map fun v => v.category).sum) 8 = true) (hR : RoomOk rm cs 9 196 1) (d : decode cc pc = .ok (.invokevirtual index, 3)) (kk : ∀ (r : Int32) (σ : Wd), Cm K nL cs (g r σ) σ (pc + 3) lv st) : Cm K nL cs (bd (f_X7_readLine  σ) g) σ pc lv (.ref (K.G.A 102) :: st) := r_cVv hO (c_X7_readLine   σ) cal_X7_readLine hl rfl (by decide) ent_X7 rfl rfl hcat hR d kk
/-! OrderSplitModel.readAll -/
def f_X7_readAll_83    (σ : Wd) : Option (Int32 × Wd) := some (0, σ)
def f_X7_readAll_77    (σ : Wd) : Option (Int32 × Wd) := bd (f_X7_flaw (6 : Int32) σ) fun _ σ1 => (f_X7_readAll_83 σ1)
def f_X7_readAll_56    (σ : Wd) : Option (Int32 × Wd) := if (σ.1 102 33) = 0 then (if (σ.1 102 16) = 0 then (f_X7_readAll_77 σ) else (if (σ.1 102 19) = 0 then (f_X7_readAll_77 σ) else (f_X7_readAll_83 σ))) else (f_X7_readAll_83 σ)
def f_X7_readAll_23   : Nat → Wd → Option (Int32 × Wd)
  | 0 => fun _ => none
  | n + 1 => fun  σ => bd (f_X7_isSign (59 : Int32) σ) fun r1 σ2 => if r1 = 0 then (if (σ2.1 102 30) = (1 : Int32) then (f_X7_readAll_56 σ2) else (bd (f_X7_flaw (1 : Int32) σ2) fun _ σ3 => (f_X7_readAll_56 σ3))) else (bd (f_X7_next σ2) fun _ σ4 => bd (f_X7_readLine σ4) fun _ σ5 => (f_X7_readAll_23 n σ5))
def f_X7_readAll  (σ : Wd) : Option (Int32 × Wd) := nmW (wi σ 102 16 (0 : Int32)) fun σ1 => nmW (wi σ1 102 19 (0 : Int32)) fun σ2 => nmW (wi σ2 102 20 (0 : Int32)) fun σ3 => bd (f_X7_next σ3) fun _ σ4 => bd (f_X7_readLine σ4) fun _ σ5 => (f_X7_readAll_23 FU σ5)
set_option maxRecDepth 20000 in
set_option maxHeartbeats 1000000 in
theorem b_X7_readAll_83 {K : Kt}   (hO : Ok K cX7_readAll RX7 1 rm_X7_readAll) (hR : Rt K none)    (σ : Wd)  : Cm K 1 (0, 0) (f_X7_readAll_83   σ) σ 83 [] [] := by
  exact r_vret hO hR dX7_readAll_83
set_option maxRecDepth 20000 in
set_option maxHeartbeats 1000000 in
theorem b_X7_readAll_77 {K : Kt}   (hO : Ok K cX7_readAll RX7 1 rm_X7_readAll) (hR : Rt K none)    (σ : Wd)  : Cm K 1 (0, 0) (f_X7_readAll_77   σ) σ 77 [(0, .ref (K.G.A 102))] [] := by
  refine r_aload_n (i := 0) hO rfl rfl dX7_readAll_77 ?_
  refine r_bipush hO bi_6 dX7_readAll_78 ?_
  refine k_X7_flaw hO a_510 rfl ⟨rfl, rfl, Nat.le_refl _, Nat.le_refl _⟩ dX7_readAll_80 ?_
  intro _ σ1
  exact r_jmp (b_X7_readAll_83 hO hR σ1) lsub_n
set_option maxRecDepth 20000 in
set_option maxHeartbeats 1000000 in
theorem b_X7_readAll_56 {K : Kt}   (hO : Ok K cX7_readAll RX7 1 rm_X7_readAll) (hR : Rt K none)    (σ : Wd)  : Cm K 1 (0, 0) (f_X7_readAll_56   σ) σ 56 [(0, .ref (K.G.A 102))] [] := by
  refine r_aload_n (i := 0) hO rfl rfl dX7_readAll_56 ?_
  refine gX7_84 hO dX7_readAll_57 ?_
  refine r_if_ne (tgt := 83) hO dX7_readAll_60 (by decide) ?_ ?_
  · refine r_aload_n (i := 0) hO rfl rfl dX7_readAll_63 ?_
    refine gX7_160 hO dX7_readAll_64 ?_
    refine r_if_eq (tgt := 77) hO dX7_readAll_67 (by decide) ?_ ?_
    · exact r_jmp (b_X7_readAll_77 hO hR σ) (lsub_c rfl lsub_n)
    · refine r_aload_n (i := 0) hO rfl rfl dX7_readAll_70 ?_
      refine gX7_150 hO dX7_readAll_71 ?_
      refine r_if_ne (tgt := 83) hO dX7_readAll_74 (by decide) ?_ ?_
      · exact r_jmp (b_X7_readAll_77 hO hR σ) (lsub_c rfl lsub_n)
      · exact r_jmp (b_X7_readAll_83 hO hR σ) lsub_n
  · exact r_jmp (b_X7_readAll_83 hO hR σ) lsub_n
set_option maxRecDepth 20000 in
set_option maxHeartbeats 1000000 in
theorem b_X7_readAll_23 {K : Kt}   (hO : Ok K cX7_readAll RX7 1 rm_X7_readAll) (hR : Rt K none)   : ∀ (n : Nat)  (σ : Wd) , Cm K 1 (0, 0) (f_X7_readAll_23  n  σ) σ 23 [(0, .ref (K.G.A 102))] [] := by
  intro n
  induction n with
  | zero => intro  σ ; exact r_none
  | succ n ih =>
    intro  σ 
    refine r_aload_n (i := 0) hO rfl rfl dX7_readAll_23 ?_
    refine r_bipush hO bi_59 dX7_readAll_24 ?_
    refine k_X7_isSign hO a_541 rfl ⟨rfl, rfl, Nat.le_refl _, Nat.le_refl _⟩ dX7_readAll_26 ?_
    intro r1 σ2
    refine r_if_eq (tgt := 43) hO dX7_readAll_29 (by decide) ?_ ?_
    · refine r_aload_n (i := 0) hO rfl rfl dX7_readAll_43 ?_
      refine gX7_96 hO dX7_readAll_44 ?_
      refine r_iconst hO ci_1 dX7_readAll_47 ?_
      refine r_icmp_eq (tgt := 56) hO dX7_readAll_48 (by decide) ?_ ?_
      · exact r_jmp (b_X7_readAll_56 hO hR σ2) (lsub_c rfl lsub_n)
      · refine r_aload_n (i := 0) hO rfl rfl dX7_readAll_51 ?_
        refine r_iconst hO ci_1 dX7_readAll_52 ?_
        refine k_X7_flaw hO a_510 rfl ⟨rfl, rfl, Nat.le_refl _, Nat.le_refl _⟩ dX7_readAll_53 ?_
        intro _ σ3
        exact r_jmp (b_X7_readAll_56 hO hR σ3) (lsub_c rfl lsub_n)
    · refine r_aload_n (i := 0) hO rfl rfl dX7_readAll_32 ?_
      refine k_X7_next hO a_511 rfl ⟨rfl, rfl, Nat.le_refl _, Nat.le_refl _⟩ dX7_readAll_33 ?_
      intro _ σ4
      refine r_aload_n (i := 0) hO rfl rfl dX7_readAll_36 ?_
      refine k_X7_readLine hO a_565 rfl ⟨rfl, rfl, Nat.le_refl _, Nat.le_refl _⟩ dX7_readAll_37 ?_
      intro _ σ5
      refine r_goto (tgt := 23) hO dX7_readAll_40 (by decide) ?_
      exact r_jmp (ih σ5) (lsub_c rfl lsub_n)
set_option maxRecDepth 20000 in
set_option maxHeartbeats 1000000 in
theorem b_X7_readAll {K : Kt}  (hO : Ok K cX7_readAll RX7 1 rm_X7_readAll) (hR : Rt K none)   (σ : Wd) : Cm K 1 (0, 0) (f_X7_readAll  σ) σ 0 [(0, .ref (K.G.A 102))] [] := by
  refine r_aload_n (i := 0) hO rfl rfl dX7_readAll_0 ?_
  refine r_iconst hO ci_0 dX7_readAll_1 ?_
  refine pX7_160 hO dX7_readAll_2 ?_
  refine r_nmW fun σ1 => ?_
  refine r_aload_n (i := 0) hO rfl rfl dX7_readAll_5 ?_
  refine r_iconst hO ci_0 dX7_readAll_6 ?_
  refine pX7_150 hO dX7_readAll_7 ?_
  refine r_nmW fun σ2 => ?_
  refine r_aload_n (i := 0) hO rfl rfl dX7_readAll_10 ?_
  refine r_iconst hO ci_0 dX7_readAll_11 ?_
  refine pX7_163 hO dX7_readAll_12 ?_
  refine r_nmW fun σ3 => ?_
  refine r_aload_n (i := 0) hO rfl rfl dX7_readAll_15 ?_
  refine k_X7_next hO a_511 rfl ⟨rfl, rfl, Nat.le_refl _, Nat.le_refl _⟩ dX7_readAll_16 ?_
  intro _ σ4
  refine r_aload_n (i := 0) hO rfl rfl dX7_readAll_19 ?_
  refine k_X7_readLine hO a_565 rfl ⟨rfl, rfl, Nat.le_refl _, Nat.le_refl _⟩ dX7_readAll_20 ?_
  intro _ σ5
  exact r_jmp (b_X7_readAll_23 hO hR FU σ5) (lsub_c rfl lsub_n)
theorem c_X7_readAll {l : Launch} {G : Gh}    (σ : Wd) : Con l G yX7_readAll cX7_readAll 1 none 10 216 [.ref (G.A 102)] σ (f_X7_readAll  σ) := Con.of (plainFor_of_name (by decide)) rfl (Nat.le_of_ble_eq_true rfl) (fun K hl hG hO hR => by subst hl; subst hG; exact b_X7_readAll hO hR   σ)
theorem cal_X7_readAll : CalV yX7_readAll cX7_readAll 1 none 0 := ⟨a_566, a_567, a_568, a_464, by decide, by decide, by decide +kernel⟩
theorem k_X7_readAll {K : Kt} {nL : Nat} {cs : Nat × Nat} {σ : Wd} {pc : Nat} {lv : List (Nat × Value)} {st : List Value} {cc : ByteArray} {own : String} {rm : Room} {index : Nat} {g : Int32 → Wd → Option (Int32 × Wd)}  (hO : Ok K cc own nL rm)  (hl : Cond.methodLink own index yX7_readAll ∈ gtb) (hcat : Nat.ble ((st.map fun v => v.category).sum) 8 = true) (hR : RoomOk rm cs 10 216 1) (d : decode cc pc = .ok (.invokevirtual index, 3)) (kk : ∀ (r : Int32) (σ : Wd), Cm K nL cs (g r σ) σ (pc + 3) lv st) : Cm K nL cs (bd (f_X7_readAll  σ) g) σ pc lv (.ref (K.G.A 102) :: st) := r_cVv hO (c_X7_readAll   σ) cal_X7_readAll hl rfl (by decide) ent_X7 rfl rfl hcat hR d kk
/-! OrderSplitModel.feed -/
def f_X7_feed_76  (k23 : Int32 → Int32 → Int32 → Int32 → Int32 → Int32 → Wd → Option (Int32 × Wd)) (x1 : Int32) (x2 : Int32) (x3 : Int32) (x4 : Int32) (x5 : Int32) (x6 : Int32) (s0 : Int32) (σ : Wd) : Option (Int32 × Wd) := gd (!decide ((4 : Int32) = 0)) (gd (inb (σ.1 102 27) 900) (nmW (wi σ 115 (ix (σ.1 102 27)) (vp_nar .byte ((s0 >>> (((24 : Int32) - ((8 : Int32) * (x6 % (4 : Int32)))) &&& 31)).toInt8.toInt32))) fun σ1 => nmW (wi σ1 102 27 ((σ1.1 102 27) + (1 : Int32))) fun σ2 => (k23 x1 x2 x3 x4 x5 (x6 + (1 : Int32)) σ2)))
def f_X7_feed_23   : Nat → Int32 → Int32 → Int32 → Int32 → Int32 → Int32 → Wd → Option (Int32 × Wd)
  | 0 => fun _ _ _ _ _ _ _ => none
  | n + 1 => fun x1 x2 x3 x4 x5 x6 σ => if (20 : Int32) ≤ x6 then (some (σ.1 102 27, σ)) else (if (4 : Int32) ≤ x6 then (if (8 : Int32) ≤ x6 then (if (12 : Int32) ≤ x6 then (if (16 : Int32) ≤ x6 then (f_X7_feed_76 (f_X7_feed_23 n) x1 x2 x3 x4 x5 x6 x5 σ) else (f_X7_feed_76 (f_X7_feed_23 n) x1 x2 x3 x4 x5 x6 x4 σ)) else (f_X7_feed_76 (f_X7_feed_23 n) x1 x2 x3 x4 x5 x6 x3 σ)) else (f_X7_feed_76 (f_X7_feed_23 n) x1 x2 x3 x4 x5 x6 x2 σ)) else (f_X7_feed_76 (f_X7_feed_23 n) x1 x2 x3 x4 x5 x6 x1 σ))
def f_X7_feed (a1 : Int32) (a2 : Int32) (a3 : Int32) (a4 : Int32) (a5 : Int32) (σ : Wd) : Option (Int32 × Wd) := nmW (wi σ 102 0 (0 : Int32)) fun σ1 => if ((σ1.1 102 27) + (20 : Int32)) ≤ (900 : Int32) then (f_X7_feed_23 FU a1 a2 a3 a4 a5 (0 : Int32) σ1) else (some ((-1 : Int32), σ1))
set_option maxRecDepth 20000 in
set_option maxHeartbeats 1000000 in
theorem b_X7_feed_76 {K : Kt}  {k23 : Int32 → Int32 → Int32 → Int32 → Int32 → Int32 → Wd → Option (Int32 × Wd)} (hO : Ok K cX7_feed RX7 8 rm_X7_feed) (hR : Rt K (some .int))   (hk23 : ∀ (x1 : Int32) (x2 : Int32) (x3 : Int32) (x4 : Int32) (x5 : Int32) (x6 : Int32) (σ : Wd), Cm K 8 (0, 0) (k23 x1 x2 x3 x4 x5 x6 σ) σ 23 [(0, .ref (K.G.A 102)), (1, .int x1), (2, .int x2), (3, .int x3), (4, .int x4), (5, .int x5), (6, .int x6)] []) (x1 : Int32) (x2 : Int32) (x3 : Int32) (x4 : Int32) (x5 : Int32) (x6 : Int32) (s0 : Int32) (σ : Wd)  : Cm K 8 (0, 0) (f_X7_feed_76 k23 x1 x2 x3 x4 x5 x6 s0 σ) σ 76 [(0, .ref (K.G.A 102)), (1, .int x1), (2, .int x2), (3, .int x3), (4, .int x4), (5, .int x5), (6, .int x6)] [.int s0] := by
  refine r_istore hO rfl rfl dX7_feed_76 ?_
  refine r_aload_n (i := 0) hO rfl rfl dX7_feed_78 ?_
  refine gX7_53 hO dX7_feed_79 ?_
  refine r_aload_n (i := 0) hO rfl rfl dX7_feed_82 ?_
  refine gX7_226 hO dX7_feed_83 ?_
  refine r_iload hO (d := dX7_feed_86) rfl ?_
  refine r_bipush hO bi_24 dX7_feed_88 ?_
  refine r_bipush hO bi_8 dX7_feed_90 ?_
  refine r_iload hO (d := dX7_feed_92) rfl ?_
  refine r_iconst hO ci_4 dX7_feed_94 ?_
  refine r_irem hO dX7_feed_95 ?_
  refine r_imul hO dX7_feed_96 ?_
  refine r_isub hO dX7_feed_97 ?_
  refine r_ishr hO dX7_feed_98 ?_
  refine r_i2b hO dX7_feed_99 ?_
  refine r_bast hO s_115 dX7_feed_100 ?_
  refine r_nmW fun σ1 => ?_
  refine r_aload_n (i := 0) hO rfl rfl dX7_feed_101 ?_
  refine r_dup hO rfl dX7_feed_102 ?_
  refine gX7_226 hO dX7_feed_103 ?_
  refine r_iconst hO ci_1 dX7_feed_106 ?_
  refine r_iadd hO dX7_feed_107 ?_
  refine pX7_226 hO dX7_feed_108 ?_
  refine r_nmW fun σ2 => ?_
  refine r_iinc hO rfl ci_1 rfl rfl dX7_feed_111 ?_
  refine r_goto (tgt := 23) hO dX7_feed_114 (by decide) ?_
  exact r_jmp (hk23 x1 x2 x3 x4 x5 (x6 + (1 : Int32)) σ2) (lsub_c rfl (lsub_c rfl (lsub_c rfl (lsub_c rfl (lsub_c rfl (lsub_c rfl (lsub_c rfl lsub_n)))))))
set_option maxRecDepth 20000 in
set_option maxHeartbeats 1000000 in
theorem b_X7_feed_23 {K : Kt}   (hO : Ok K cX7_feed RX7 8 rm_X7_feed) (hR : Rt K (some .int))   : ∀ (n : Nat) (x1 : Int32) (x2 : Int32) (x3 : Int32) (x4 : Int32) (x5 : Int32) (x6 : Int32) (σ : Wd) , Cm K 8 (0, 0) (f_X7_feed_23  n x1 x2 x3 x4 x5 x6 σ) σ 23 [(0, .ref (K.G.A 102)), (1, .int x1), (2, .int x2), (3, .int x3), (4, .int x4), (5, .int x5), (6, .int x6)] [] := by
  intro n
  induction n with
  | zero => intro x1 x2 x3 x4 x5 x6 σ ; exact r_none
  | succ n ih =>
    intro x1 x2 x3 x4 x5 x6 σ 
    refine r_iload hO (d := dX7_feed_23) rfl ?_
    refine r_bipush hO bi_20 dX7_feed_25 ?_
    refine r_icmp_ge (tgt := 117) hO dX7_feed_27 (by decide) ?_ ?_
    · refine r_aload_n (i := 0) hO rfl rfl dX7_feed_117 ?_
      refine gX7_226 hO dX7_feed_118 ?_
      exact r_iret hO hR dX7_feed_121
    · refine r_iload hO (d := dX7_feed_30) rfl ?_
      refine r_iconst hO ci_4 dX7_feed_32 ?_
      refine r_icmp_ge (tgt := 40) hO dX7_feed_33 (by decide) ?_ ?_
      · refine r_iload hO (d := dX7_feed_40) rfl ?_
        refine r_bipush hO bi_8 dX7_feed_42 ?_
        refine r_icmp_ge (tgt := 51) hO dX7_feed_44 (by decide) ?_ ?_
        · refine r_iload hO (d := dX7_feed_51) rfl ?_
          refine r_bipush hO bi_12 dX7_feed_53 ?_
          refine r_icmp_ge (tgt := 62) hO dX7_feed_55 (by decide) ?_ ?_
          · refine r_iload hO (d := dX7_feed_62) rfl ?_
            refine r_bipush hO bi_16 dX7_feed_64 ?_
            refine r_icmp_ge (tgt := 74) hO dX7_feed_66 (by decide) ?_ ?_
            · refine r_iload hO (d := dX7_feed_74) rfl ?_
              exact r_jmp (b_X7_feed_76 hO hR ih x1 x2 x3 x4 x5 x6 x5 σ) (lsub_c rfl (lsub_c rfl (lsub_c rfl (lsub_c rfl (lsub_c rfl (lsub_c rfl (lsub_c rfl lsub_n)))))))
            · refine r_iload hO (d := dX7_feed_69) rfl ?_
              refine r_goto (tgt := 76) hO dX7_feed_71 (by decide) ?_
              exact r_jmp (b_X7_feed_76 hO hR ih x1 x2 x3 x4 x5 x6 x4 σ) (lsub_c rfl (lsub_c rfl (lsub_c rfl (lsub_c rfl (lsub_c rfl (lsub_c rfl (lsub_c rfl lsub_n)))))))
          · refine r_iload_n (i := 3) hO rfl rfl dX7_feed_58 ?_
            refine r_goto (tgt := 76) hO dX7_feed_59 (by decide) ?_
            exact r_jmp (b_X7_feed_76 hO hR ih x1 x2 x3 x4 x5 x6 x3 σ) (lsub_c rfl (lsub_c rfl (lsub_c rfl (lsub_c rfl (lsub_c rfl (lsub_c rfl (lsub_c rfl lsub_n)))))))
        · refine r_iload_n (i := 2) hO rfl rfl dX7_feed_47 ?_
          refine r_goto (tgt := 76) hO dX7_feed_48 (by decide) ?_
          exact r_jmp (b_X7_feed_76 hO hR ih x1 x2 x3 x4 x5 x6 x2 σ) (lsub_c rfl (lsub_c rfl (lsub_c rfl (lsub_c rfl (lsub_c rfl (lsub_c rfl (lsub_c rfl lsub_n)))))))
      · refine r_iload_n (i := 1) hO rfl rfl dX7_feed_36 ?_
        refine r_goto (tgt := 76) hO dX7_feed_37 (by decide) ?_
        exact r_jmp (b_X7_feed_76 hO hR ih x1 x2 x3 x4 x5 x6 x1 σ) (lsub_c rfl (lsub_c rfl (lsub_c rfl (lsub_c rfl (lsub_c rfl (lsub_c rfl (lsub_c rfl lsub_n)))))))
set_option maxRecDepth 20000 in
set_option maxHeartbeats 1000000 in
theorem b_X7_feed {K : Kt}  (hO : Ok K cX7_feed RX7 8 rm_X7_feed) (hR : Rt K (some .int))  (a1 : Int32) (a2 : Int32) (a3 : Int32) (a4 : Int32) (a5 : Int32) (σ : Wd) : Cm K 8 (0, 0) (f_X7_feed a1 a2 a3 a4 a5 σ) σ 0 [(0, .ref (K.G.A 102)), (1, .int a1), (2, .int a2), (3, .int a3), (4, .int a4), (5, .int a5)] [] := by
  refine r_aload_n (i := 0) hO rfl rfl dX7_feed_0 ?_
  refine r_iconst hO ci_0 dX7_feed_1 ?_
  refine pX7_70 hO dX7_feed_2 ?_
  refine r_nmW fun σ1 => ?_
  refine r_aload_n (i := 0) hO rfl rfl dX7_feed_5 ?_
  refine gX7_226 hO dX7_feed_6 ?_
  refine r_bipush hO bi_20 dX7_feed_9 ?_
  refine r_iadd hO dX7_feed_11 ?_
  refine r_sipush hO si_900 dX7_feed_12 ?_
  refine r_icmp_le (tgt := 20) hO dX7_feed_15 (by decide) ?_ ?_
  · refine r_iconst hO ci_0 dX7_feed_20 ?_
    refine r_istore hO rfl rfl dX7_feed_21 ?_
    exact r_jmp (b_X7_feed_23 hO hR FU a1 a2 a3 a4 a5 (0 : Int32) σ1) (lsub_c rfl (lsub_c rfl (lsub_c rfl (lsub_c rfl (lsub_c rfl (lsub_c rfl (lsub_c rfl lsub_n)))))))
  · refine r_iconst hO ci_m1 dX7_feed_18 ?_
    exact r_iret hO hR dX7_feed_19
theorem c_X7_feed {l : Launch} {G : Gh}   (a1 : Int32) (a2 : Int32) (a3 : Int32) (a4 : Int32) (a5 : Int32) (σ : Wd) : Con l G yX7_feed cX7_feed 8 (some .int) 0 0 [.ref (G.A 102), .int a1, .int a2, .int a3, .int a4, .int a5] σ (f_X7_feed a1 a2 a3 a4 a5 σ) := Con.of (plainFor_of_name (by decide)) rfl (Nat.le_of_ble_eq_true rfl) (fun K hl hG hO hR => by subst hl; subst hG; exact b_X7_feed hO hR  a1 a2 a3 a4 a5 σ)
theorem cal_X7_feed : CalV yX7_feed cX7_feed 8 (some .int) 5 := ⟨a_569, a_570, a_571, a_464, by decide, by decide, by decide +kernel⟩
theorem k_X7_feed {K : Kt} {nL : Nat} {cs : Nat × Nat} {σ : Wd} {pc : Nat} {lv : List (Nat × Value)} {st : List Value} {cc : ByteArray} {own : String} {rm : Room} {index : Nat} {g : Int32 → Wd → Option (Int32 × Wd)} {a1 : Int32} {a2 : Int32} {a3 : Int32} {a4 : Int32} {a5 : Int32} (hO : Ok K cc own nL rm)  (hl : Cond.methodLink own index yX7_feed ∈ gtb) (hcat : Nat.ble ((st.map fun v => v.category).sum) 8 = true) (hR : RoomOk rm cs 0 0 8) (d : decode cc pc = .ok (.invokevirtual index, 3)) (kk : ∀ (r : Int32) (σ : Wd), Cm K nL cs (g r σ) σ (pc + 3) lv (.int r :: st)) : Cm K nL cs (bd (f_X7_feed a1 a2 a3 a4 a5 σ) g) σ pc lv (.int a5 :: .int a4 :: .int a3 :: .int a2 :: .int a1 :: .ref (K.G.A 102) :: st) := r_cVi hO (c_X7_feed  a1 a2 a3 a4 a5 σ) cal_X7_feed hl rfl (by decide) ent_X7 rfl rfl hcat hR d kk
/-! OrderSplitModel.told -/
def f_X7_told (a1 : Int32) (a2 : Int32) (σ : Wd) : Option (Int32 × Wd) := gd (inb (((5 : Int32) * a1) + a2) 25) (some (σ.1 103 (ix (((5 : Int32) * a1) + a2)), σ))
set_option maxRecDepth 20000 in
set_option maxHeartbeats 1000000 in
theorem b_X7_told {K : Kt}  (hO : Ok K cX7_told RX7 3 rm_X7_told) (hR : Rt K (some .int))  (a1 : Int32) (a2 : Int32) (σ : Wd) : Cm K 3 (0, 0) (f_X7_told a1 a2 σ) σ 0 [(0, .ref (K.G.A 102)), (1, .int a1), (2, .int a2)] [] := by
  refine r_aload_n (i := 0) hO rfl rfl dX7_told_0 ?_
  refine gX7_15 hO dX7_told_1 ?_
  refine r_iconst hO ci_5 dX7_told_4 ?_
  refine r_iload_n (i := 1) hO rfl rfl dX7_told_5 ?_
  refine r_imul hO dX7_told_6 ?_
  refine r_iload_n (i := 2) hO rfl rfl dX7_told_7 ?_
  refine r_iadd hO dX7_told_8 ?_
  refine r_iald hO s_103 dX7_told_9 ?_
  exact r_iret hO hR dX7_told_10
theorem c_X7_told {l : Launch} {G : Gh}   (a1 : Int32) (a2 : Int32) (σ : Wd) : Con l G yX7_told cX7_told 3 (some .int) 0 0 [.ref (G.A 102), .int a1, .int a2] σ (f_X7_told a1 a2 σ) := Con.of (plainFor_of_name (by decide)) rfl (Nat.le_of_ble_eq_true rfl) (fun K hl hG hO hR => by subst hl; subst hG; exact b_X7_told hO hR  a1 a2 σ)
theorem cal_X7_told : CalV yX7_told cX7_told 3 (some .int) 2 := ⟨a_572, a_573, a_574, a_464, by decide, by decide, by decide +kernel⟩
theorem k_X7_told {K : Kt} {nL : Nat} {cs : Nat × Nat} {σ : Wd} {pc : Nat} {lv : List (Nat × Value)} {st : List Value} {cc : ByteArray} {own : String} {rm : Room} {index : Nat} {g : Int32 → Wd → Option (Int32 × Wd)} {a1 : Int32} {a2 : Int32} (hO : Ok K cc own nL rm)  (hl : Cond.methodLink own index yX7_told ∈ gtb) (hcat : Nat.ble ((st.map fun v => v.category).sum) 8 = true) (hR : RoomOk rm cs 0 0 3) (d : decode cc pc = .ok (.invokevirtual index, 3)) (kk : ∀ (r : Int32) (σ : Wd), Cm K nL cs (g r σ) σ (pc + 3) lv (.int r :: st)) : Cm K nL cs (bd (f_X7_told a1 a2 σ) g) σ pc lv (.int a2 :: .int a1 :: .ref (K.G.A 102) :: st) := r_cVi hO (c_X7_told  a1 a2 σ) cal_X7_told hl rfl (by decide) ent_X7 rfl rfl hcat hR d kk
/-! OrderSplitModel.levels -/
def f_X7_levels (a1 : Int32) (σ : Wd) : Option (Int32 × Wd) := bd (f_X7_told a1 (4 : Int32) σ) fun r1 σ2 => some (r1, σ2)
set_option maxRecDepth 20000 in
set_option maxHeartbeats 1000000 in
theorem b_X7_levels {K : Kt}  (hO : Ok K cX7_levels RX7 2 rm_X7_levels) (hR : Rt K (some .int))  (a1 : Int32) (σ : Wd) : Cm K 2 (0, 0) (f_X7_levels a1 σ) σ 0 [(0, .ref (K.G.A 102)), (1, .int a1)] [] := by
  refine r_aload_n (i := 0) hO rfl rfl dX7_levels_0 ?_
  refine r_iload_n (i := 1) hO rfl rfl dX7_levels_1 ?_
  refine r_iconst hO ci_4 dX7_levels_2 ?_
  refine k_X7_told hO a_575 rfl ⟨rfl, rfl, Nat.le_refl _, Nat.le_refl _⟩ dX7_levels_3 ?_
  intro r1 σ2
  exact r_iret hO hR dX7_levels_6
theorem c_X7_levels {l : Launch} {G : Gh}   (a1 : Int32) (σ : Wd) : Con l G yX7_levels cX7_levels 2 (some .int) 1 22 [.ref (G.A 102), .int a1] σ (f_X7_levels a1 σ) := Con.of (plainFor_of_name (by decide)) rfl (Nat.le_of_ble_eq_true rfl) (fun K hl hG hO hR => by subst hl; subst hG; exact b_X7_levels hO hR  a1 σ)
theorem cal_X7_levels : CalV yX7_levels cX7_levels 2 (some .int) 1 := ⟨a_576, a_577, a_578, a_464, by decide, by decide, by decide +kernel⟩
theorem k_X7_levels {K : Kt} {nL : Nat} {cs : Nat × Nat} {σ : Wd} {pc : Nat} {lv : List (Nat × Value)} {st : List Value} {cc : ByteArray} {own : String} {rm : Room} {index : Nat} {g : Int32 → Wd → Option (Int32 × Wd)} {a1 : Int32} (hO : Ok K cc own nL rm)  (hl : Cond.methodLink own index yX7_levels ∈ gtb) (hcat : Nat.ble ((st.map fun v => v.category).sum) 8 = true) (hR : RoomOk rm cs 1 22 2) (d : decode cc pc = .ok (.invokevirtual index, 3)) (kk : ∀ (r : Int32) (σ : Wd), Cm K nL cs (g r σ) σ (pc + 3) lv (.int r :: st)) : Cm K nL cs (bd (f_X7_levels a1 σ) g) σ pc lv (.int a1 :: .ref (K.G.A 102) :: st) := r_cVi hO (c_X7_levels  a1 σ) cal_X7_levels hl rfl (by decide) ent_X7 rfl rfl hcat hR d kk
/-! OrderSplitModel.partAt -/
def f_X7_partAt (a0 : Int32) (σ : Wd) : Option (Int32 × Wd) := some ((48 : Int32) + ((8 : Int32) * a0), σ)
set_option maxRecDepth 20000 in
set_option maxHeartbeats 1000000 in
theorem b_X7_partAt {K : Kt}  (hO : Ok K cX7_partAt RX7 1 rm_X7_partAt) (hR : Rt K (some .int))  (a0 : Int32) (σ : Wd) : Cm K 1 (0, 0) (f_X7_partAt a0 σ) σ 0 [(0, .int a0)] [] := by
  refine r_bipush hO bi_48 dX7_partAt_0 ?_
  refine r_bipush hO bi_8 dX7_partAt_2 ?_
  refine r_iload_n (i := 0) hO rfl rfl dX7_partAt_4 ?_
  refine r_imul hO dX7_partAt_5 ?_
  refine r_iadd hO dX7_partAt_6 ?_
  exact r_iret hO hR dX7_partAt_7
theorem c_X7_partAt {l : Launch} {G : Gh}   (a0 : Int32) (σ : Wd) : Con l G yX7_partAt cX7_partAt 1 (some .int) 0 0 [.int a0] σ (f_X7_partAt a0 σ) := Con.of (plainFor_of_name (by decide)) rfl (Nat.le_of_ble_eq_true rfl) (fun K hl hG hO hR => by subst hl; subst hG; exact b_X7_partAt hO hR  a0 σ)
theorem cal_X7_partAt : CalS yX7_partAt cX7_partAt 1 (some .int) 1 := ⟨a_579, a_580, a_464, by decide, by decide, by decide +kernel⟩
theorem k_X7_partAt {K : Kt} {nL : Nat} {cs : Nat × Nat} {σ : Wd} {pc : Nat} {lv : List (Nat × Value)} {st : List Value} {cc : ByteArray} {own : String} {rm : Room} {index : Nat} {g : Int32 → Wd → Option (Int32 × Wd)} {a0 : Int32} (hO : Ok K cc own nL rm)  (hl : Cond.methodLink own index yX7_partAt ∈ gtb) (hcat : Nat.ble ((st.map fun v => v.category).sum) 8 = true) (hR : RoomOk rm cs 0 0 1) (d : decode cc pc = .ok (.invokestatic index, 3)) (kk : ∀ (r : Int32) (σ : Wd), Cm K nL cs (g r σ) σ (pc + 3) lv (.int r :: st)) : Cm K nL cs (bd (f_X7_partAt a0 σ) g) σ pc lv (.int a0 :: st) := r_cSi hO (c_X7_partAt  a0 σ) cal_X7_partAt hl rfl rfl hcat hR d kk
/-! OrderSplitModel.clearsPart -/
def f_X7_clearsPart_2   : Nat → Int32 → Int32 → Wd → Option (Int32 × Wd)
  | 0 => fun _ _ _ => none
  | n + 1 => fun x1 x2 σ => if (8 : Int32) ≤ x2 then (bd (f_X7_partAt x1 σ) fun r1 σ2 => gd (inb (r1 + (5 : Int32)) 179) (nmW (wi σ2 112 (ix (r1 + (5 : Int32))) (-2 : Int32)) fun σ3 => bd (f_X7_partAt x1 σ3) fun r4 σ5 => gd (inb (r4 + (6 : Int32)) 179) (nmW (wi σ5 112 (ix (r4 + (6 : Int32))) (-2 : Int32)) fun σ6 => some (0, σ6)))) else (bd (f_X7_partAt x1 σ) fun r7 σ8 => gd (inb (r7 + x2) 179) (nmW (wi σ8 112 (ix (r7 + x2)) (0 : Int32)) fun σ9 => (f_X7_clearsPart_2 n x1 (x2 + (1 : Int32)) σ9)))
def f_X7_clearsPart (a1 : Int32) (σ : Wd) : Option (Int32 × Wd) := (f_X7_clearsPart_2 FU a1 (0 : Int32) σ)
set_option maxRecDepth 20000 in
set_option maxHeartbeats 1000000 in
theorem b_X7_clearsPart_2 {K : Kt}   (hO : Ok K cX7_clearsPart RX7 3 rm_X7_clearsPart) (hR : Rt K none)   : ∀ (n : Nat) (x1 : Int32) (x2 : Int32) (σ : Wd) , Cm K 3 (0, 0) (f_X7_clearsPart_2  n x1 x2 σ) σ 2 [(0, .ref (K.G.A 102)), (1, .int x1), (2, .int x2)] [] := by
  intro n
  induction n with
  | zero => intro x1 x2 σ ; exact r_none
  | succ n ih =>
    intro x1 x2 σ 
    refine r_iload_n (i := 2) hO rfl rfl dX7_clearsPart_2 ?_
    refine r_bipush hO bi_8 dX7_clearsPart_3 ?_
    refine r_icmp_ge (tgt := 26) hO dX7_clearsPart_5 (by decide) ?_ ?_
    · refine r_aload_n (i := 0) hO rfl rfl dX7_clearsPart_26 ?_
      refine gX7_44 hO dX7_clearsPart_27 ?_
      refine r_iload_n (i := 1) hO rfl rfl dX7_clearsPart_30 ?_
      refine k_X7_partAt hO a_581 rfl ⟨rfl, rfl, Nat.le_refl _, Nat.le_refl _⟩ dX7_clearsPart_31 ?_
      intro r1 σ2
      refine r_iconst hO ci_5 dX7_clearsPart_34 ?_
      refine r_iadd hO dX7_clearsPart_35 ?_
      refine r_bipush hO bi_m2 dX7_clearsPart_36 ?_
      refine r_iast hO s_112 dX7_clearsPart_38 ?_
      refine r_nmW fun σ3 => ?_
      refine r_aload_n (i := 0) hO rfl rfl dX7_clearsPart_39 ?_
      refine gX7_44 hO dX7_clearsPart_40 ?_
      refine r_iload_n (i := 1) hO rfl rfl dX7_clearsPart_43 ?_
      refine k_X7_partAt hO a_581 rfl ⟨rfl, rfl, Nat.le_refl _, Nat.le_refl _⟩ dX7_clearsPart_44 ?_
      intro r4 σ5
      refine r_bipush hO bi_6 dX7_clearsPart_47 ?_
      refine r_iadd hO dX7_clearsPart_49 ?_
      refine r_bipush hO bi_m2 dX7_clearsPart_50 ?_
      refine r_iast hO s_112 dX7_clearsPart_52 ?_
      refine r_nmW fun σ6 => ?_
      exact r_vret hO hR dX7_clearsPart_53
    · refine r_aload_n (i := 0) hO rfl rfl dX7_clearsPart_8 ?_
      refine gX7_44 hO dX7_clearsPart_9 ?_
      refine r_iload_n (i := 1) hO rfl rfl dX7_clearsPart_12 ?_
      refine k_X7_partAt hO a_581 rfl ⟨rfl, rfl, Nat.le_refl _, Nat.le_refl _⟩ dX7_clearsPart_13 ?_
      intro r7 σ8
      refine r_iload_n (i := 2) hO rfl rfl dX7_clearsPart_16 ?_
      refine r_iadd hO dX7_clearsPart_17 ?_
      refine r_iconst hO ci_0 dX7_clearsPart_18 ?_
      refine r_iast hO s_112 dX7_clearsPart_19 ?_
      refine r_nmW fun σ9 => ?_
      refine r_iinc hO rfl ci_1 rfl rfl dX7_clearsPart_20 ?_
      refine r_goto (tgt := 2) hO dX7_clearsPart_23 (by decide) ?_
      exact r_jmp (ih x1 (x2 + (1 : Int32)) σ9) (lsub_c rfl (lsub_c rfl (lsub_c rfl lsub_n)))
set_option maxRecDepth 20000 in
set_option maxHeartbeats 1000000 in
theorem b_X7_clearsPart {K : Kt}  (hO : Ok K cX7_clearsPart RX7 3 rm_X7_clearsPart) (hR : Rt K none)  (a1 : Int32) (σ : Wd) : Cm K 3 (0, 0) (f_X7_clearsPart a1 σ) σ 0 [(0, .ref (K.G.A 102)), (1, .int a1)] [] := by
  refine r_iconst hO ci_0 dX7_clearsPart_0 ?_
  refine r_istore_n (i := 2) hO rfl rfl rfl dX7_clearsPart_1 ?_
  exact r_jmp (b_X7_clearsPart_2 hO hR FU a1 (0 : Int32) σ) (lsub_c rfl (lsub_c rfl (lsub_c rfl lsub_n)))
theorem c_X7_clearsPart {l : Launch} {G : Gh}   (a1 : Int32) (σ : Wd) : Con l G yX7_clearsPart cX7_clearsPart 3 none 1 20 [.ref (G.A 102), .int a1] σ (f_X7_clearsPart a1 σ) := Con.of (plainFor_of_name (by decide)) rfl (Nat.le_of_ble_eq_true rfl) (fun K hl hG hO hR => by subst hl; subst hG; exact b_X7_clearsPart hO hR  a1 σ)
theorem cal_X7_clearsPart : CalV yX7_clearsPart cX7_clearsPart 3 none 1 := ⟨a_582, a_583, a_584, a_464, by decide, by decide, by decide +kernel⟩
theorem k_X7_clearsPart {K : Kt} {nL : Nat} {cs : Nat × Nat} {σ : Wd} {pc : Nat} {lv : List (Nat × Value)} {st : List Value} {cc : ByteArray} {own : String} {rm : Room} {index : Nat} {g : Int32 → Wd → Option (Int32 × Wd)} {a1 : Int32} (hO : Ok K cc own nL rm)  (hl : Cond.methodLink own index yX7_clearsPart ∈ gtb) (hcat : Nat.ble ((st.map fun v => v.category).sum) 8 = true) (hR : RoomOk rm cs 1 20 3) (d : decode cc pc = .ok (.invokevirtual index, 3)) (kk : ∀ (r : Int32) (σ : Wd), Cm K nL cs (g r σ) σ (pc + 3) lv st) : Cm K nL cs (bd (f_X7_clearsPart a1 σ) g) σ pc lv (.int a1 :: .ref (K.G.A 102) :: st) := r_cVv hO (c_X7_clearsPart  a1 σ) cal_X7_clearsPart hl rfl (by decide) ent_X7 rfl rfl hcat hR d kk
/-! OrderSplitModel.takesOver -/
def f_X7_takesOver_180  (k155 : Int32 → Wd → Option (Int32 × Wd)) : Nat → Int32 → Int32 → Wd → Option (Int32 × Wd)
  | 0 => fun _ _ _ => none
  | n + 1 => fun x1 x2 σ => bd (f_X7_levels x1 σ) fun r1 σ2 => if r1 ≤ x2 then (bd (f_X7_clearsPart x1 σ2) fun _ σ3 => (k155 (x1 + (1 : Int32)) σ3)) else (gd (inb (((6 : Int32) * x1) + x2) 30) (gd (inb (((0 : Int32) + ((6 : Int32) * x1)) + x2) 179) (nmW (wi σ2 112 (ix (((0 : Int32) + ((6 : Int32) * x1)) + x2)) (σ2.1 109 (ix (((6 : Int32) * x1) + x2)))) fun σ4 => (f_X7_takesOver_180 k155 n x1 (x2 + (1 : Int32)) σ4))))
def f_X7_takesOver_155   : Nat → Int32 → Wd → Option (Int32 × Wd)
  | 0 => fun _ _ => none
  | n + 1 => fun x1 σ => if (σ.1 102 14) ≤ x1 then (some (0, σ)) else (gd (inb x1 5) (gd (inb ((30 : Int32) + x1) 179) (nmW (wi σ 112 (ix ((30 : Int32) + x1)) (σ.1 110 (ix x1))) fun σ1 => (f_X7_takesOver_180 (f_X7_takesOver_155 n) FU x1 (0 : Int32) σ1))))
def f_X7_takesOver_122   : Nat → Int32 → Wd → Option (Int32 × Wd)
  | 0 => fun _ _ => none
  | n + 1 => fun x1 σ => if (179 : Int32) ≤ x1 then (gd (inb (35 : Int32) 179) (nmW (wi σ 112 (ix (35 : Int32)) (σ.1 102 16)) fun σ1 => (f_X7_takesOver_155 FU (0 : Int32) σ1))) else (gd (inb x1 179) (nmW (wi σ 112 (ix x1) (0 : Int32)) fun σ2 => (f_X7_takesOver_122 n (x1 + (1 : Int32)) σ2)))
def f_X7_takesOver_96   : Nat → Int32 → Wd → Option (Int32 × Wd)
  | 0 => fun _ _ => none
  | n + 1 => fun x1 σ => if (40 : Int32) ≤ x1 then (f_X7_takesOver_122 FU (0 : Int32) σ) else (gd (inb x1 40) (gd (inb x1 40) (nmW (wi σ 105 (ix x1) (σ.1 108 (ix x1))) fun σ1 => (f_X7_takesOver_96 n (x1 + (1 : Int32)) σ1))))
def f_X7_takesOver_70   : Nat → Int32 → Wd → Option (Int32 × Wd)
  | 0 => fun _ _ => none
  | n + 1 => fun x1 σ => if (30 : Int32) ≤ x1 then (f_X7_takesOver_96 FU (0 : Int32) σ) else (gd (inb x1 30) (gd (inb x1 30) (nmW (wi σ 104 (ix x1) (σ.1 107 (ix x1))) fun σ1 => (f_X7_takesOver_70 n (x1 + (1 : Int32)) σ1))))
def f_X7_takesOver_44   : Nat → Int32 → Wd → Option (Int32 × Wd)
  | 0 => fun _ _ => none
  | n + 1 => fun x1 σ => if (25 : Int32) ≤ x1 then (f_X7_takesOver_70 FU (0 : Int32) σ) else (gd (inb x1 25) (gd (inb x1 25) (nmW (wi σ 103 (ix x1) (σ.1 106 (ix x1))) fun σ1 => (f_X7_takesOver_44 n (x1 + (1 : Int32)) σ1))))
def f_X7_takesOver  (σ : Wd) : Option (Int32 × Wd) := gd (isb (1 : Int32)) (nmW (wi σ 102 21 (1 : Int32)) fun σ1 => gd (isb (0 : Int32)) (nmW (wi σ1 102 25 (0 : Int32)) fun σ2 => nmW (wi σ2 102 12 (σ2.1 102 17)) fun σ3 => nmW (wi σ3 102 13 (σ3.1 102 18)) fun σ4 => nmW (wi σ4 102 14 (σ4.1 102 19)) fun σ5 => nmW (wi σ5 102 15 (σ5.1 102 20)) fun σ6 => (f_X7_takesOver_44 FU (0 : Int32) σ6)))
set_option maxRecDepth 20000 in
set_option maxHeartbeats 1000000 in
theorem b_X7_takesOver_180 {K : Kt}  {k155 : Int32 → Wd → Option (Int32 × Wd)} (hO : Ok K cX7_takesOver RX7 3 rm_X7_takesOver) (hR : Rt K none)   (hk155 : ∀ (x1 : Int32) (σ : Wd), Cm K 3 (0, 0) (k155 x1 σ) σ 155 [(0, .ref (K.G.A 102)), (1, .int x1)] []) : ∀ (n : Nat) (x1 : Int32) (x2 : Int32) (σ : Wd) , Cm K 3 (0, 0) (f_X7_takesOver_180 k155 n x1 x2 σ) σ 180 [(0, .ref (K.G.A 102)), (1, .int x1), (2, .int x2)] [] := by
  intro n
  induction n with
  | zero => intro x1 x2 σ ; exact r_none
  | succ n ih =>
    intro x1 x2 σ 
    refine r_iload_n (i := 2) hO rfl rfl dX7_takesOver_180 ?_
    refine r_aload_n (i := 0) hO rfl rfl dX7_takesOver_181 ?_
    refine r_iload_n (i := 1) hO rfl rfl dX7_takesOver_182 ?_
    refine k_X7_levels hO a_585 rfl ⟨rfl, rfl, Nat.le_refl _, Nat.le_refl _⟩ dX7_takesOver_183 ?_
    intro r1 σ2
    refine r_icmp_ge (tgt := 219) hO dX7_takesOver_186 (by decide) ?_ ?_
    · refine r_aload_n (i := 0) hO rfl rfl dX7_takesOver_219 ?_
      refine r_iload_n (i := 1) hO rfl rfl dX7_takesOver_220 ?_
      refine k_X7_clearsPart hO a_586 rfl ⟨rfl, rfl, Nat.le_refl _, Nat.le_refl _⟩ dX7_takesOver_221 ?_
      intro _ σ3
      refine r_iinc hO rfl ci_1 rfl rfl dX7_takesOver_224 ?_
      refine r_goto (tgt := 155) hO dX7_takesOver_227 (by decide) ?_
      exact r_jmp (hk155 (x1 + (1 : Int32)) σ3) (lsub_c rfl (lsub_c rfl lsub_n))
    · refine r_aload_n (i := 0) hO rfl rfl dX7_takesOver_189 ?_
      refine gX7_44 hO dX7_takesOver_190 ?_
      refine r_iconst hO ci_0 dX7_takesOver_193 ?_
      refine r_bipush hO bi_6 dX7_takesOver_194 ?_
      refine r_iload_n (i := 1) hO rfl rfl dX7_takesOver_196 ?_
      refine r_imul hO dX7_takesOver_197 ?_
      refine r_iadd hO dX7_takesOver_198 ?_
      refine r_iload_n (i := 2) hO rfl rfl dX7_takesOver_199 ?_
      refine r_iadd hO dX7_takesOver_200 ?_
      refine r_aload_n (i := 0) hO rfl rfl dX7_takesOver_201 ?_
      refine gX7_34 hO dX7_takesOver_202 ?_
      refine r_bipush hO bi_6 dX7_takesOver_205 ?_
      refine r_iload_n (i := 1) hO rfl rfl dX7_takesOver_207 ?_
      refine r_imul hO dX7_takesOver_208 ?_
      refine r_iload_n (i := 2) hO rfl rfl dX7_takesOver_209 ?_
      refine r_iadd hO dX7_takesOver_210 ?_
      refine r_iald hO s_109 dX7_takesOver_211 ?_
      refine r_iast hO s_112 dX7_takesOver_212 ?_
      refine r_nmW fun σ4 => ?_
      refine r_iinc hO rfl ci_1 rfl rfl dX7_takesOver_213 ?_
      refine r_goto (tgt := 180) hO dX7_takesOver_216 (by decide) ?_
      exact r_jmp (ih x1 (x2 + (1 : Int32)) σ4) (lsub_c rfl (lsub_c rfl (lsub_c rfl lsub_n)))
set_option maxRecDepth 20000 in
set_option maxHeartbeats 1000000 in
theorem b_X7_takesOver_155 {K : Kt}   (hO : Ok K cX7_takesOver RX7 3 rm_X7_takesOver) (hR : Rt K none)   : ∀ (n : Nat) (x1 : Int32) (σ : Wd) , Cm K 3 (0, 0) (f_X7_takesOver_155  n x1 σ) σ 155 [(0, .ref (K.G.A 102)), (1, .int x1)] [] := by
  intro n
  induction n with
  | zero => intro x1 σ ; exact r_none
  | succ n ih =>
    intro x1 σ 
    refine r_iload_n (i := 1) hO rfl rfl dX7_takesOver_155 ?_
    refine r_aload_n (i := 0) hO rfl rfl dX7_takesOver_156 ?_
    refine gX7_235 hO dX7_takesOver_157 ?_
    refine r_icmp_ge (tgt := 230) hO dX7_takesOver_160 (by decide) ?_ ?_
    · exact r_vret hO hR dX7_takesOver_230
    · refine r_aload_n (i := 0) hO rfl rfl dX7_takesOver_163 ?_
      refine gX7_44 hO dX7_takesOver_164 ?_
      refine r_bipush hO bi_30 dX7_takesOver_167 ?_
      refine r_iload_n (i := 1) hO rfl rfl dX7_takesOver_169 ?_
      refine r_iadd hO dX7_takesOver_170 ?_
      refine r_aload_n (i := 0) hO rfl rfl dX7_takesOver_171 ?_
      refine gX7_37 hO dX7_takesOver_172 ?_
      refine r_iload_n (i := 1) hO rfl rfl dX7_takesOver_175 ?_
      refine r_iald hO s_110 dX7_takesOver_176 ?_
      refine r_iast hO s_112 dX7_takesOver_177 ?_
      refine r_nmW fun σ1 => ?_
      refine r_iconst hO ci_0 dX7_takesOver_178 ?_
      refine r_istore_n (i := 2) hO rfl rfl rfl dX7_takesOver_179 ?_
      exact r_jmp (b_X7_takesOver_180 hO hR ih FU x1 (0 : Int32) σ1) (lsub_c rfl (lsub_c rfl (lsub_c rfl lsub_n)))
set_option maxRecDepth 20000 in
set_option maxHeartbeats 1000000 in
theorem b_X7_takesOver_122 {K : Kt}   (hO : Ok K cX7_takesOver RX7 3 rm_X7_takesOver) (hR : Rt K none)   : ∀ (n : Nat) (x1 : Int32) (σ : Wd) , Cm K 3 (0, 0) (f_X7_takesOver_122  n x1 σ) σ 122 [(0, .ref (K.G.A 102)), (1, .int x1)] [] := by
  intro n
  induction n with
  | zero => intro x1 σ ; exact r_none
  | succ n ih =>
    intro x1 σ 
    refine r_iload_n (i := 1) hO rfl rfl dX7_takesOver_122 ?_
    refine r_sipush hO si_179 dX7_takesOver_123 ?_
    refine r_icmp_ge (tgt := 142) hO dX7_takesOver_126 (by decide) ?_ ?_
    · refine r_aload_n (i := 0) hO rfl rfl dX7_takesOver_142 ?_
      refine gX7_44 hO dX7_takesOver_143 ?_
      refine r_bipush hO bi_35 dX7_takesOver_146 ?_
      refine r_aload_n (i := 0) hO rfl rfl dX7_takesOver_148 ?_
      refine gX7_160 hO dX7_takesOver_149 ?_
      refine r_iast hO s_112 dX7_takesOver_152 ?_
      refine r_nmW fun σ1 => ?_
      refine r_iconst hO ci_0 dX7_takesOver_153 ?_
      refine r_istore_n (i := 1) hO rfl rfl rfl dX7_takesOver_154 ?_
      exact r_jmp (b_X7_takesOver_155 hO hR FU (0 : Int32) σ1) (lsub_c rfl (lsub_c rfl lsub_n))
    · refine r_aload_n (i := 0) hO rfl rfl dX7_takesOver_129 ?_
      refine gX7_44 hO dX7_takesOver_130 ?_
      refine r_iload_n (i := 1) hO rfl rfl dX7_takesOver_133 ?_
      refine r_iconst hO ci_0 dX7_takesOver_134 ?_
      refine r_iast hO s_112 dX7_takesOver_135 ?_
      refine r_nmW fun σ2 => ?_
      refine r_iinc hO rfl ci_1 rfl rfl dX7_takesOver_136 ?_
      refine r_goto (tgt := 122) hO dX7_takesOver_139 (by decide) ?_
      exact r_jmp (ih (x1 + (1 : Int32)) σ2) (lsub_c rfl (lsub_c rfl lsub_n))
set_option maxRecDepth 20000 in
set_option maxHeartbeats 1000000 in
theorem b_X7_takesOver_96 {K : Kt}   (hO : Ok K cX7_takesOver RX7 3 rm_X7_takesOver) (hR : Rt K none)   : ∀ (n : Nat) (x1 : Int32) (σ : Wd) , Cm K 3 (0, 0) (f_X7_takesOver_96  n x1 σ) σ 96 [(0, .ref (K.G.A 102)), (1, .int x1)] [] := by
  intro n
  induction n with
  | zero => intro x1 σ ; exact r_none
  | succ n ih =>
    intro x1 σ 
    refine r_iload_n (i := 1) hO rfl rfl dX7_takesOver_96 ?_
    refine r_bipush hO bi_40 dX7_takesOver_97 ?_
    refine r_icmp_ge (tgt := 120) hO dX7_takesOver_99 (by decide) ?_ ?_
    · refine r_iconst hO ci_0 dX7_takesOver_120 ?_
      refine r_istore_n (i := 1) hO rfl rfl rfl dX7_takesOver_121 ?_
      exact r_jmp (b_X7_takesOver_122 hO hR FU (0 : Int32) σ) (lsub_c rfl (lsub_c rfl lsub_n))
    · refine r_aload_n (i := 0) hO rfl rfl dX7_takesOver_102 ?_
      refine gX7_22 hO dX7_takesOver_103 ?_
      refine r_iload_n (i := 1) hO rfl rfl dX7_takesOver_106 ?_
      refine r_aload_n (i := 0) hO rfl rfl dX7_takesOver_107 ?_
      refine gX7_31 hO dX7_takesOver_108 ?_
      refine r_iload_n (i := 1) hO rfl rfl dX7_takesOver_111 ?_
      refine r_iald hO s_108 dX7_takesOver_112 ?_
      refine r_iast hO s_105 dX7_takesOver_113 ?_
      refine r_nmW fun σ1 => ?_
      refine r_iinc hO rfl ci_1 rfl rfl dX7_takesOver_114 ?_
      refine r_goto (tgt := 96) hO dX7_takesOver_117 (by decide) ?_
      exact r_jmp (ih (x1 + (1 : Int32)) σ1) (lsub_c rfl (lsub_c rfl lsub_n))
set_option maxRecDepth 20000 in
set_option maxHeartbeats 1000000 in
theorem b_X7_takesOver_70 {K : Kt}   (hO : Ok K cX7_takesOver RX7 3 rm_X7_takesOver) (hR : Rt K none)   : ∀ (n : Nat) (x1 : Int32) (σ : Wd) , Cm K 3 (0, 0) (f_X7_takesOver_70  n x1 σ) σ 70 [(0, .ref (K.G.A 102)), (1, .int x1)] [] := by
  intro n
  induction n with
  | zero => intro x1 σ ; exact r_none
  | succ n ih =>
    intro x1 σ 
    refine r_iload_n (i := 1) hO rfl rfl dX7_takesOver_70 ?_
    refine r_bipush hO bi_30 dX7_takesOver_71 ?_
    refine r_icmp_ge (tgt := 94) hO dX7_takesOver_73 (by decide) ?_ ?_
    · refine r_iconst hO ci_0 dX7_takesOver_94 ?_
      refine r_istore_n (i := 1) hO rfl rfl rfl dX7_takesOver_95 ?_
      exact r_jmp (b_X7_takesOver_96 hO hR FU (0 : Int32) σ) (lsub_c rfl (lsub_c rfl lsub_n))
    · refine r_aload_n (i := 0) hO rfl rfl dX7_takesOver_76 ?_
      refine gX7_19 hO dX7_takesOver_77 ?_
      refine r_iload_n (i := 1) hO rfl rfl dX7_takesOver_80 ?_
      refine r_aload_n (i := 0) hO rfl rfl dX7_takesOver_81 ?_
      refine gX7_28 hO dX7_takesOver_82 ?_
      refine r_iload_n (i := 1) hO rfl rfl dX7_takesOver_85 ?_
      refine r_iald hO s_107 dX7_takesOver_86 ?_
      refine r_iast hO s_104 dX7_takesOver_87 ?_
      refine r_nmW fun σ1 => ?_
      refine r_iinc hO rfl ci_1 rfl rfl dX7_takesOver_88 ?_
      refine r_goto (tgt := 70) hO dX7_takesOver_91 (by decide) ?_
      exact r_jmp (ih (x1 + (1 : Int32)) σ1) (lsub_c rfl (lsub_c rfl lsub_n))
set_option maxRecDepth 20000 in
set_option maxHeartbeats 1000000 in
theorem b_X7_takesOver_44 {K : Kt}   (hO : Ok K cX7_takesOver RX7 3 rm_X7_takesOver) (hR : Rt K none)   : ∀ (n : Nat) (x1 : Int32) (σ : Wd) , Cm K 3 (0, 0) (f_X7_takesOver_44  n x1 σ) σ 44 [(0, .ref (K.G.A 102)), (1, .int x1)] [] := by
  intro n
  induction n with
  | zero => intro x1 σ ; exact r_none
  | succ n ih =>
    intro x1 σ 
    refine r_iload_n (i := 1) hO rfl rfl dX7_takesOver_44 ?_
    refine r_bipush hO bi_25 dX7_takesOver_45 ?_
    refine r_icmp_ge (tgt := 68) hO dX7_takesOver_47 (by decide) ?_ ?_
    · refine r_iconst hO ci_0 dX7_takesOver_68 ?_
      refine r_istore_n (i := 1) hO rfl rfl rfl dX7_takesOver_69 ?_
      exact r_jmp (b_X7_takesOver_70 hO hR FU (0 : Int32) σ) (lsub_c rfl (lsub_c rfl lsub_n))
    · refine r_aload_n (i := 0) hO rfl rfl dX7_takesOver_50 ?_
      refine gX7_15 hO dX7_takesOver_51 ?_
      refine r_iload_n (i := 1) hO rfl rfl dX7_takesOver_54 ?_
      refine r_aload_n (i := 0) hO rfl rfl dX7_takesOver_55 ?_
      refine gX7_25 hO dX7_takesOver_56 ?_
      refine r_iload_n (i := 1) hO rfl rfl dX7_takesOver_59 ?_
      refine r_iald hO s_106 dX7_takesOver_60 ?_
      refine r_iast hO s_103 dX7_takesOver_61 ?_
      refine r_nmW fun σ1 => ?_
      refine r_iinc hO rfl ci_1 rfl rfl dX7_takesOver_62 ?_
      refine r_goto (tgt := 44) hO dX7_takesOver_65 (by decide) ?_
      exact r_jmp (ih (x1 + (1 : Int32)) σ1) (lsub_c rfl (lsub_c rfl lsub_n))
set_option maxRecDepth 20000 in
set_option maxHeartbeats 1000000 in
theorem b_X7_takesOver {K : Kt}  (hO : Ok K cX7_takesOver RX7 3 rm_X7_takesOver) (hR : Rt K none)   (σ : Wd) : Cm K 3 (0, 0) (f_X7_takesOver  σ) σ 0 [(0, .ref (K.G.A 102))] [] := by
  refine r_aload_n (i := 0) hO rfl rfl dX7_takesOver_0 ?_
  refine r_iconst hO ci_1 dX7_takesOver_1 ?_
  refine pX7_241 hO dX7_takesOver_2 ?_
  refine r_nmW fun σ1 => ?_
  refine r_aload_n (i := 0) hO rfl rfl dX7_takesOver_5 ?_
  refine r_iconst hO ci_0 dX7_takesOver_6 ?_
  refine pX7_245 hO dX7_takesOver_7 ?_
  refine r_nmW fun σ2 => ?_
  refine r_aload_n (i := 0) hO rfl rfl dX7_takesOver_10 ?_
  refine r_aload_n (i := 0) hO rfl rfl dX7_takesOver_11 ?_
  refine gX7_193 hO dX7_takesOver_12 ?_
  refine pX7_248 hO dX7_takesOver_15 ?_
  refine r_nmW fun σ3 => ?_
  refine r_aload_n (i := 0) hO rfl rfl dX7_takesOver_18 ?_
  refine r_aload_n (i := 0) hO rfl rfl dX7_takesOver_19 ?_
  refine gX7_196 hO dX7_takesOver_20 ?_
  refine pX7_250 hO dX7_takesOver_23 ?_
  refine r_nmW fun σ4 => ?_
  refine r_aload_n (i := 0) hO rfl rfl dX7_takesOver_26 ?_
  refine r_aload_n (i := 0) hO rfl rfl dX7_takesOver_27 ?_
  refine gX7_150 hO dX7_takesOver_28 ?_
  refine pX7_235 hO dX7_takesOver_31 ?_
  refine r_nmW fun σ5 => ?_
  refine r_aload_n (i := 0) hO rfl rfl dX7_takesOver_34 ?_
  refine r_aload_n (i := 0) hO rfl rfl dX7_takesOver_35 ?_
  refine gX7_163 hO dX7_takesOver_36 ?_
  refine pX7_252 hO dX7_takesOver_39 ?_
  refine r_nmW fun σ6 => ?_
  refine r_iconst hO ci_0 dX7_takesOver_42 ?_
  refine r_istore_n (i := 1) hO rfl rfl rfl dX7_takesOver_43 ?_
  exact r_jmp (b_X7_takesOver_44 hO hR FU (0 : Int32) σ6) (lsub_c rfl (lsub_c rfl lsub_n))
theorem c_X7_takesOver {l : Launch} {G : Gh}    (σ : Wd) : Con l G yX7_takesOver cX7_takesOver 3 none 2 43 [.ref (G.A 102)] σ (f_X7_takesOver  σ) := Con.of (plainFor_of_name (by decide)) rfl (Nat.le_of_ble_eq_true rfl) (fun K hl hG hO hR => by subst hl; subst hG; exact b_X7_takesOver hO hR   σ)
theorem cal_X7_takesOver : CalV yX7_takesOver cX7_takesOver 3 none 0 := ⟨a_587, a_588, a_589, a_464, by decide, by decide, by decide +kernel⟩
theorem k_X7_takesOver {K : Kt} {nL : Nat} {cs : Nat × Nat} {σ : Wd} {pc : Nat} {lv : List (Nat × Value)} {st : List Value} {cc : ByteArray} {own : String} {rm : Room} {index : Nat} {g : Int32 → Wd → Option (Int32 × Wd)}  (hO : Ok K cc own nL rm)  (hl : Cond.methodLink own index yX7_takesOver ∈ gtb) (hcat : Nat.ble ((st.map fun v => v.category).sum) 8 = true) (hR : RoomOk rm cs 2 43 3) (d : decode cc pc = .ok (.invokevirtual index, 3)) (kk : ∀ (r : Int32) (σ : Wd), Cm K nL cs (g r σ) σ (pc + 3) lv st) : Cm K nL cs (bd (f_X7_takesOver  σ) g) σ pc lv (.ref (K.G.A 102) :: st) := r_cVv hO (c_X7_takesOver   σ) cal_X7_takesOver hl rfl (by decide) ent_X7 rfl rfl hcat hR d kk
/-! OrderSplitModel.split -/
def f_X7_split_17    (σ : Wd) : Option (Int32 × Wd) := bd (f_X7_refused (2 : Int32) σ) fun r1 σ2 => some (r1, σ2)
def f_X7_split (a1 : Int32) (σ : Wd) : Option (Int32 × Wd) := nmW (wi σ 102 0 (0 : Int32)) fun σ1 => if a1 < 0 then (f_X7_split_17 σ1) else (if a1 ≤ (σ1.1 102 27) then (nmW (wi σ1 102 28 a1) fun σ2 => nmW (wi σ2 102 27 (0 : Int32)) fun σ3 => nmW (wi σ3 102 29 (0 : Int32)) fun σ4 => nmW (wi σ4 102 33 (0 : Int32)) fun σ5 => bd (f_X7_readAll σ5) fun _ σ6 => if (σ6.1 102 33) ≤ 0 then (bd (f_X7_takesOver σ6) fun _ σ7 => bd (f_X7_good (σ7.1 102 14) σ7) fun r8 σ9 => some (r8, σ9)) else (nmW (wi σ6 102 1 (4 : Int32)) fun σ10 => nmW (wi σ10 102 2 (σ10.1 102 31)) fun σ11 => some ((-1 : Int32), σ11))) else (f_X7_split_17 σ1))
set_option maxRecDepth 20000 in
set_option maxHeartbeats 1000000 in
theorem b_X7_split_17 {K : Kt}   (hO : Ok K cX7_split RX7 2 rm_X7_split) (hR : Rt K (some .int))    (σ : Wd)  : Cm K 2 (0, 0) (f_X7_split_17   σ) σ 17 [(0, .ref (K.G.A 102))] [] := by
  refine r_aload_n (i := 0) hO rfl rfl dX7_split_17 ?_
  refine r_iconst hO ci_2 dX7_split_18 ?_
  refine k_X7_refused hO a_465 rfl ⟨rfl, rfl, Nat.le_refl _, Nat.le_refl _⟩ dX7_split_19 ?_
  intro r1 σ2
  exact r_iret hO hR dX7_split_22
set_option maxRecDepth 20000 in
set_option maxHeartbeats 1000000 in
theorem b_X7_split {K : Kt}  (hO : Ok K cX7_split RX7 2 rm_X7_split) (hR : Rt K (some .int))  (a1 : Int32) (σ : Wd) : Cm K 2 (0, 0) (f_X7_split a1 σ) σ 0 [(0, .ref (K.G.A 102)), (1, .int a1)] [] := by
  refine r_aload_n (i := 0) hO rfl rfl dX7_split_0 ?_
  refine r_iconst hO ci_0 dX7_split_1 ?_
  refine pX7_70 hO dX7_split_2 ?_
  refine r_nmW fun σ1 => ?_
  refine r_iload_n (i := 1) hO rfl rfl dX7_split_5 ?_
  refine r_if_lt (tgt := 17) hO dX7_split_6 (by decide) ?_ ?_
  · exact r_jmp (b_X7_split_17 hO hR σ1) (lsub_c rfl lsub_n)
  · refine r_iload_n (i := 1) hO rfl rfl dX7_split_9 ?_
    refine r_aload_n (i := 0) hO rfl rfl dX7_split_10 ?_
    refine gX7_226 hO dX7_split_11 ?_
    refine r_icmp_le (tgt := 23) hO dX7_split_14 (by decide) ?_ ?_
    · refine r_aload_n (i := 0) hO rfl rfl dX7_split_23 ?_
      refine r_iload_n (i := 1) hO rfl rfl dX7_split_24 ?_
      refine pX7_81 hO dX7_split_25 ?_
      refine r_nmW fun σ2 => ?_
      refine r_aload_n (i := 0) hO rfl rfl dX7_split_28 ?_
      refine r_iconst hO ci_0 dX7_split_29 ?_
      refine pX7_226 hO dX7_split_30 ?_
      refine r_nmW fun σ3 => ?_
      refine r_aload_n (i := 0) hO rfl rfl dX7_split_33 ?_
      refine r_iconst hO ci_0 dX7_split_34 ?_
      refine pX7_87 hO dX7_split_35 ?_
      refine r_nmW fun σ4 => ?_
      refine r_aload_n (i := 0) hO rfl rfl dX7_split_38 ?_
      refine r_iconst hO ci_0 dX7_split_39 ?_
      refine pX7_84 hO dX7_split_40 ?_
      refine r_nmW fun σ5 => ?_
      refine r_aload_n (i := 0) hO rfl rfl dX7_split_43 ?_
      refine k_X7_readAll hO a_590 rfl ⟨rfl, rfl, Nat.le_refl _, Nat.le_refl _⟩ dX7_split_44 ?_
      intro _ σ6
      refine r_aload_n (i := 0) hO rfl rfl dX7_split_47 ?_
      refine gX7_84 hO dX7_split_48 ?_
      refine r_if_le (tgt := 69) hO dX7_split_51 (by decide) ?_ ?_
      · refine r_aload_n (i := 0) hO rfl rfl dX7_split_69 ?_
        refine k_X7_takesOver hO a_591 rfl ⟨rfl, rfl, Nat.le_refl _, Nat.le_refl _⟩ dX7_split_70 ?_
        intro _ σ7
        refine r_aload_n (i := 0) hO rfl rfl dX7_split_73 ?_
        refine r_aload_n (i := 0) hO rfl rfl dX7_split_74 ?_
        refine gX7_235 hO dX7_split_75 ?_
        refine k_X7_good hO a_592 rfl ⟨rfl, rfl, Nat.le_refl _, Nat.le_refl _⟩ dX7_split_78 ?_
        intro r8 σ9
        exact r_iret hO hR dX7_split_81
      · refine r_aload_n (i := 0) hO rfl rfl dX7_split_54 ?_
        refine r_iconst hO ci_4 dX7_split_55 ?_
        refine pX7_73 hO dX7_split_56 ?_
        refine r_nmW fun σ10 => ?_
        refine r_aload_n (i := 0) hO rfl rfl dX7_split_59 ?_
        refine r_aload_n (i := 0) hO rfl rfl dX7_split_60 ?_
        refine gX7_93 hO dX7_split_61 ?_
        refine pX7_11 hO dX7_split_64 ?_
        refine r_nmW fun σ11 => ?_
        refine r_iconst hO ci_m1 dX7_split_67 ?_
        exact r_iret hO hR dX7_split_68
    · exact r_jmp (b_X7_split_17 hO hR σ1) (lsub_c rfl lsub_n)
theorem c_X7_split {l : Launch} {G : Gh}   (a1 : Int32) (σ : Wd) : Con l G yX7_split cX7_split 2 (some .int) 11 236 [.ref (G.A 102), .int a1] σ (f_X7_split a1 σ) := Con.of (plainFor_of_name (by decide)) rfl (Nat.le_of_ble_eq_true rfl) (fun K hl hG hO hR => by subst hl; subst hG; exact b_X7_split hO hR  a1 σ)
theorem cal_X7_split : CalV yX7_split cX7_split 2 (some .int) 1 := ⟨a_593, a_594, a_595, a_464, by decide, by decide, by decide +kernel⟩
theorem k_X7_split {K : Kt} {nL : Nat} {cs : Nat × Nat} {σ : Wd} {pc : Nat} {lv : List (Nat × Value)} {st : List Value} {cc : ByteArray} {own : String} {rm : Room} {index : Nat} {g : Int32 → Wd → Option (Int32 × Wd)} {a1 : Int32} (hO : Ok K cc own nL rm)  (hl : Cond.methodLink own index yX7_split ∈ gtb) (hcat : Nat.ble ((st.map fun v => v.category).sum) 8 = true) (hR : RoomOk rm cs 11 236 2) (d : decode cc pc = .ok (.invokevirtual index, 3)) (kk : ∀ (r : Int32) (σ : Wd), Cm K nL cs (g r σ) σ (pc + 3) lv (.int r :: st)) : Cm K nL cs (bd (f_X7_split a1 σ) g) σ pc lv (.int a1 :: .ref (K.G.A 102) :: st) := r_cVi hO (c_X7_split  a1 σ) cal_X7_split hl rfl (by decide) ent_X7 rfl rfl hcat hR d kk

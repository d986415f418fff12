/-! OrderSplit_Market.leastUnitFee -/
def f_X3_leastUnitFee_51 (b : Nat)  (s0 : Int32) (σ : Wd) : Option (Int32 × Wd) := some (s0, σ)
def f_X3_leastUnitFee_45 (b : Nat)  (x1 : Int32) (σ : Wd) : Option (Int32 × Wd) := gd (inb x1 5) ((f_X3_leastUnitFee_51 b (σ.1 (b + 3) (ix x1)) σ))
def f_X3_leastUnitFee (b : Nat) (a1 : Int32) (σ : Wd) : Option (Int32 × Wd) := gd (inb a1 5) (if (σ.1 (b + 1) (ix a1)) = (2 : Int32) then (some ((0 : Int32), σ)) else (gd (inb a1 5) (gd (inb a1 5) (if (σ.1 (b + 1) (ix a1)) = (1 : Int32) then (gd (inb a1 5) (if (σ.1 (b + 3) (ix a1)) ≤ ((σ.1 (b + 3) (ix a1)) >>> ((1 : Int32) &&& 31)) then (f_X3_leastUnitFee_45 b a1 σ) else (f_X3_leastUnitFee_51 b ((σ.1 (b + 3) (ix a1)) >>> ((1 : Int32) &&& 31)) σ))) else (f_X3_leastUnitFee_45 b a1 σ)))))
set_option maxRecDepth 20000 in
set_option maxHeartbeats 1000000 in
theorem b_X3_leastUnitFee_51 {K : Kt} {b : Nat}  (hO : Ok K cX3_leastUnitFee RX3 3 rm_X3_leastUnitFee) (hR : Rt K (some .int)) (hb : isM b)  (s0 : Int32) (σ : Wd)  : Cm K 3 (0, 0) (f_X3_leastUnitFee_51 b s0 σ) σ 51 [] [.int s0] := by
  exact r_iret hO hR dX3_leastUnitFee_51
set_option maxRecDepth 20000 in
set_option maxHeartbeats 1000000 in
theorem b_X3_leastUnitFee_45 {K : Kt} {b : Nat}  (hO : Ok K cX3_leastUnitFee RX3 3 rm_X3_leastUnitFee) (hR : Rt K (some .int)) (hb : isM b)  (x1 : Int32) (σ : Wd)  : Cm K 3 (0, 0) (f_X3_leastUnitFee_45 b x1 σ) σ 45 [(0, .ref (K.G.A b)), (1, .int x1)] [] := by
  refine r_aload_n (i := 0) hO rfl rfl dX3_leastUnitFee_45 ?_
  refine gX3_34 hO hb dX3_leastUnitFee_46 ?_
  refine r_iload_n (i := 1) hO rfl rfl dX3_leastUnitFee_49 ?_
  refine r_iald hO (sM_3 hb) dX3_leastUnitFee_50 ?_
  exact r_jmp (b_X3_leastUnitFee_51 hO hR hb (σ.1 (b + 3) (ix x1)) σ) lsub_n
set_option maxRecDepth 20000 in
set_option maxHeartbeats 1000000 in
theorem b_X3_leastUnitFee {K : Kt} {b : Nat} (hO : Ok K cX3_leastUnitFee RX3 3 rm_X3_leastUnitFee) (hR : Rt K (some .int)) (hb : isM b) (a1 : Int32) (σ : Wd) : Cm K 3 (0, 0) (f_X3_leastUnitFee b a1 σ) σ 0 [(0, .ref (K.G.A b)), (1, .int a1)] [] := by
  refine r_aload_n (i := 0) hO rfl rfl dX3_leastUnitFee_0 ?_
  refine gX3_27 hO hb dX3_leastUnitFee_1 ?_
  refine r_iload_n (i := 1) hO rfl rfl dX3_leastUnitFee_4 ?_
  refine r_iald hO (sM_1 hb) dX3_leastUnitFee_5 ?_
  refine r_iconst hO ci_2 dX3_leastUnitFee_6 ?_
  refine r_icmp_ne (tgt := 12) hO dX3_leastUnitFee_7 (by decide) ?_ ?_
  · refine r_iconst hO ci_0 dX3_leastUnitFee_10 ?_
    exact r_iret hO hR dX3_leastUnitFee_11
  · refine r_aload_n (i := 0) hO rfl rfl dX3_leastUnitFee_12 ?_
    refine gX3_34 hO hb dX3_leastUnitFee_13 ?_
    refine r_iload_n (i := 1) hO rfl rfl dX3_leastUnitFee_16 ?_
    refine r_iald hO (sM_3 hb) dX3_leastUnitFee_17 ?_
    refine r_iconst hO ci_1 dX3_leastUnitFee_18 ?_
    refine r_ishr hO dX3_leastUnitFee_19 ?_
    refine r_istore_n (i := 2) hO rfl rfl rfl dX3_leastUnitFee_20 ?_
    refine r_aload_n (i := 0) hO rfl rfl dX3_leastUnitFee_21 ?_
    refine gX3_27 hO hb dX3_leastUnitFee_22 ?_
    refine r_iload_n (i := 1) hO rfl rfl dX3_leastUnitFee_25 ?_
    refine r_iald hO (sM_1 hb) dX3_leastUnitFee_26 ?_
    refine r_iconst hO ci_1 dX3_leastUnitFee_27 ?_
    refine r_icmp_ne (tgt := 45) hO dX3_leastUnitFee_28 (by decide) ?_ ?_
    · refine r_iload_n (i := 2) hO rfl rfl dX3_leastUnitFee_31 ?_
      refine r_aload_n (i := 0) hO rfl rfl dX3_leastUnitFee_32 ?_
      refine gX3_34 hO hb dX3_leastUnitFee_33 ?_
      refine r_iload_n (i := 1) hO rfl rfl dX3_leastUnitFee_36 ?_
      refine r_iald hO (sM_3 hb) dX3_leastUnitFee_37 ?_
      refine r_icmp_ge (tgt := 45) hO dX3_leastUnitFee_38 (by decide) ?_ ?_
      · exact r_jmp (b_X3_leastUnitFee_45 hO hR hb a1 σ) (lsub_c rfl (lsub_c rfl lsub_n))
      · refine r_iload_n (i := 2) hO rfl rfl dX3_leastUnitFee_41 ?_
        refine r_goto (tgt := 51) hO dX3_leastUnitFee_42 (by decide) ?_
        exact r_jmp (b_X3_leastUnitFee_51 hO hR hb ((σ.1 (b + 3) (ix a1)) >>> ((1 : Int32) &&& 31)) σ) lsub_n
    · exact r_jmp (b_X3_leastUnitFee_45 hO hR hb a1 σ) (lsub_c rfl (lsub_c rfl lsub_n))
theorem c_X3_leastUnitFee {l : Launch} {G : Gh} {b : Nat} (hb : isM b) (a1 : Int32) (σ : Wd) : Con l G yX3_leastUnitFee cX3_leastUnitFee 3 (some .int) 0 0 [.ref (G.A b), .int a1] σ (f_X3_leastUnitFee b a1 σ) := Con.of (plainFor_of_name (by decide)) rfl (Nat.le_of_ble_eq_true rfl) (fun K hl hG hO hR => by subst hl; subst hG; exact b_X3_leastUnitFee hO hR hb a1 σ)
theorem cal_X3_leastUnitFee : CalV yX3_leastUnitFee cX3_leastUnitFee 3 (some .int) 1 := ⟨a_3, a_4, a_5, a_6, by decide, by decide, by decide +kernel⟩
theorem k_X3_leastUnitFee {K : Kt} {nL : Nat} {cs : Nat × Nat} {σ : Wd} {pc : Nat} {lv : List (Nat × Value)} {st : List Value} {cc : ByteArray} {own : String} {rm : Room} {index : Nat} {g : Int32 → Wd → Option (Int32 × Wd)} {b : Nat} {a1 : Int32} (hO : Ok K cc own nL rm) (hb : isM b) (hl : Cond.methodLink own index yX3_leastUnitFee ∈ gtb) (hcat : Nat.ble ((st.map fun v => v.category).sum) 8 = true) (hR : RoomOk rm cs 0 0 3) (d : decode cc pc = .ok (.invokevirtual index, 3)) (kk : ∀ (r : Int32) (σ : Wd), Cm K nL cs (g r σ) σ (pc + 3) lv (.int r :: st)) : Cm K nL cs (bd (f_X3_leastUnitFee b a1 σ) g) σ pc lv (.int a1 :: .ref (K.G.A b) :: st) := r_cVi hO (c_X3_leastUnitFee hb a1 σ) cal_X3_leastUnitFee hl rfl (isM_lt hb) (ent_X3 hb) rfl rfl hcat hR d kk
/-! OrderSplit_Market.unitsUpTo -/
def f_X3_unitsUpTo_47 (b : Nat) (k12 : Int32 → Int32 → Int32 → Int32 → Int32 → Wd → Option (Int32 × Wd)) (x1 : Int32) (x2 : Int32) (x3 : Int32) (x4 : Int32) (x5 : Int32) (σ : Wd) : Option (Int32 × Wd) := (k12 x1 x2 x3 x4 (x5 + (1 : Int32)) σ)
def f_X3_unitsUpTo_12 (b : Nat)  : Nat → Int32 → Int32 → Int32 → Int32 → Int32 → Wd → Option (Int32 × Wd)
  | 0 => fun _ _ _ _ _ _ => none
  | n + 1 => fun x1 x2 x3 x4 x5 σ => gd (inb x1 5) (if (x4 + (σ.1 (b + 6) (ix x1))) ≤ x5 then (some (x3, σ)) else (gd (inb x5 30) (if x2 < (σ.1 (b + 8) (ix x5)) then (f_X3_unitsUpTo_47 b (f_X3_unitsUpTo_12 b n) x1 x2 x3 x4 x5 σ) else (gd (inb x5 30) ((f_X3_unitsUpTo_47 b (f_X3_unitsUpTo_12 b n) x1 x2 (x3 + (σ.1 (b + 9) (ix x5))) x4 x5 σ))))))
def f_X3_unitsUpTo (b : Nat) (a1 : Int32) (a2 : Int32) (σ : Wd) : Option (Int32 × Wd) := (f_X3_unitsUpTo_12 b FU a1 a2 (0 : Int32) (a1 * (6 : Int32)) (a1 * (6 : Int32)) σ)
set_option maxRecDepth 20000 in
set_option maxHeartbeats 1000000 in
theorem b_X3_unitsUpTo_47 {K : Kt} {b : Nat} {k12 : Int32 → Int32 → Int32 → Int32 → Int32 → Wd → Option (Int32 × Wd)} (hO : Ok K cX3_unitsUpTo RX3 6 rm_X3_unitsUpTo) (hR : Rt K (some .int)) (hb : isM b)  (hk12 : ∀ (x1 : Int32) (x2 : Int32) (x3 : Int32) (x4 : Int32) (x5 : Int32) (σ : Wd), Cm K 6 (0, 0) (k12 x1 x2 x3 x4 x5 σ) σ 12 [(0, .ref (K.G.A b)), (1, .int x1), (2, .int x2), (3, .int x3), (4, .int x4), (5, .int x5)] []) (x1 : Int32) (x2 : Int32) (x3 : Int32) (x4 : Int32) (x5 : Int32) (σ : Wd)  : Cm K 6 (0, 0) (f_X3_unitsUpTo_47 b k12 x1 x2 x3 x4 x5 σ) σ 47 [(0, .ref (K.G.A b)), (1, .int x1), (2, .int x2), (3, .int x3), (4, .int x4), (5, .int x5)] [] := by
  refine r_iinc hO rfl ci_1 rfl rfl dX3_unitsUpTo_47 ?_
  refine r_goto (tgt := 12) hO dX3_unitsUpTo_50 (by decide) ?_
  exact r_jmp (hk12 x1 x2 x3 x4 (x5 + (1 : Int32)) σ) (lsub_c rfl (lsub_c rfl (lsub_c rfl (lsub_c rfl (lsub_c rfl (lsub_c rfl lsub_n))))))
set_option maxRecDepth 20000 in
set_option maxHeartbeats 1000000 in
theorem b_X3_unitsUpTo_12 {K : Kt} {b : Nat}  (hO : Ok K cX3_unitsUpTo RX3 6 rm_X3_unitsUpTo) (hR : Rt K (some .int)) (hb : isM b)  : ∀ (n : Nat) (x1 : Int32) (x2 : Int32) (x3 : Int32) (x4 : Int32) (x5 : Int32) (σ : Wd) , Cm K 6 (0, 0) (f_X3_unitsUpTo_12 b n x1 x2 x3 x4 x5 σ) σ 12 [(0, .ref (K.G.A b)), (1, .int x1), (2, .int x2), (3, .int x3), (4, .int x4), (5, .int x5)] [] := by
  intro n
  induction n with
  | zero => intro x1 x2 x3 x4 x5 σ ; exact r_none
  | succ n ih =>
    intro x1 x2 x3 x4 x5 σ 
    refine r_iload hO (d := dX3_unitsUpTo_12) rfl ?_
    refine r_iload hO (d := dX3_unitsUpTo_14) rfl ?_
    refine r_aload_n (i := 0) hO rfl rfl dX3_unitsUpTo_16 ?_
    refine gX3_43 hO hb dX3_unitsUpTo_17 ?_
    refine r_iload_n (i := 1) hO rfl rfl dX3_unitsUpTo_20 ?_
    refine r_iald hO (sM_6 hb) dX3_unitsUpTo_21 ?_
    refine r_iadd hO dX3_unitsUpTo_22 ?_
    refine r_icmp_ge (tgt := 53) hO dX3_unitsUpTo_23 (by decide) ?_ ?_
    · refine r_iload_n (i := 3) hO rfl rfl dX3_unitsUpTo_53 ?_
      exact r_iret hO hR dX3_unitsUpTo_54
    · refine r_aload_n (i := 0) hO rfl rfl dX3_unitsUpTo_26 ?_
      refine gX3_49 hO hb dX3_unitsUpTo_27 ?_
      refine r_iload hO (d := dX3_unitsUpTo_30) rfl ?_
      refine r_iald hO (sM_8 hb) dX3_unitsUpTo_32 ?_
      refine r_iload_n (i := 2) hO rfl rfl dX3_unitsUpTo_33 ?_
      refine r_icmp_gt (tgt := 47) hO dX3_unitsUpTo_34 (by decide) ?_ ?_
      · exact r_jmp (b_X3_unitsUpTo_47 hO hR hb ih x1 x2 x3 x4 x5 σ) (lsub_c rfl (lsub_c rfl (lsub_c rfl (lsub_c rfl (lsub_c rfl (lsub_c rfl lsub_n))))))
      · refine r_iload_n (i := 3) hO rfl rfl dX3_unitsUpTo_37 ?_
        refine r_aload_n (i := 0) hO rfl rfl dX3_unitsUpTo_38 ?_
        refine gX3_52 hO hb dX3_unitsUpTo_39 ?_
        refine r_iload hO (d := dX3_unitsUpTo_42) rfl ?_
        refine r_iald hO (sM_9 hb) dX3_unitsUpTo_44 ?_
        refine r_iadd hO dX3_unitsUpTo_45 ?_
        refine r_istore_n (i := 3) hO rfl rfl rfl dX3_unitsUpTo_46 ?_
        exact r_jmp (b_X3_unitsUpTo_47 hO hR hb ih x1 x2 (x3 + (σ.1 (b + 9) (ix x5))) x4 x5 σ) (lsub_c rfl (lsub_c rfl (lsub_c rfl (lsub_c rfl (lsub_c rfl (lsub_c rfl lsub_n))))))
set_option maxRecDepth 20000 in
set_option maxHeartbeats 1000000 in
theorem b_X3_unitsUpTo {K : Kt} {b : Nat} (hO : Ok K cX3_unitsUpTo RX3 6 rm_X3_unitsUpTo) (hR : Rt K (some .int)) (hb : isM b) (a1 : Int32) (a2 : Int32) (σ : Wd) : Cm K 6 (0, 0) (f_X3_unitsUpTo b a1 a2 σ) σ 0 [(0, .ref (K.G.A b)), (1, .int a1), (2, .int a2)] [] := by
  refine r_iconst hO ci_0 dX3_unitsUpTo_0 ?_
  refine r_istore_n (i := 3) hO rfl rfl rfl dX3_unitsUpTo_1 ?_
  refine r_iload_n (i := 1) hO rfl rfl dX3_unitsUpTo_2 ?_
  refine r_bipush hO bi_6 dX3_unitsUpTo_3 ?_
  refine r_imul hO dX3_unitsUpTo_5 ?_
  refine r_istore hO rfl rfl dX3_unitsUpTo_6 ?_
  refine r_iload hO (d := dX3_unitsUpTo_8) rfl ?_
  refine r_istore hO rfl rfl dX3_unitsUpTo_10 ?_
  exact r_jmp (b_X3_unitsUpTo_12 hO hR hb FU a1 a2 (0 : Int32) (a1 * (6 : Int32)) (a1 * (6 : Int32)) σ) (lsub_c rfl (lsub_c rfl (lsub_c rfl (lsub_c rfl (lsub_c rfl (lsub_c rfl lsub_n))))))
theorem c_X3_unitsUpTo {l : Launch} {G : Gh} {b : Nat} (hb : isM b) (a1 : Int32) (a2 : Int32) (σ : Wd) : Con l G yX3_unitsUpTo cX3_unitsUpTo 6 (some .int) 0 0 [.ref (G.A b), .int a1, .int a2] σ (f_X3_unitsUpTo b a1 a2 σ) := Con.of (plainFor_of_name (by decide)) rfl (Nat.le_of_ble_eq_true rfl) (fun K hl hG hO hR => by subst hl; subst hG; exact b_X3_unitsUpTo hO hR hb a1 a2 σ)
theorem cal_X3_unitsUpTo : CalV yX3_unitsUpTo cX3_unitsUpTo 6 (some .int) 2 := ⟨a_24, a_25, a_26, a_6, by decide, by decide, by decide +kernel⟩
theorem k_X3_unitsUpTo {K : Kt} {nL : Nat} {cs : Nat × Nat} {σ : Wd} {pc : Nat} {lv : List (Nat × Value)} {st : List Value} {cc : ByteArray} {own : String} {rm : Room} {index : Nat} {g : Int32 → Wd → Option (Int32 × Wd)} {b : Nat} {a1 : Int32} {a2 : Int32} (hO : Ok K cc own nL rm) (hb : isM b) (hl : Cond.methodLink own index yX3_unitsUpTo ∈ gtb) (hcat : Nat.ble ((st.map fun v => v.category).sum) 8 = true) (hR : RoomOk rm cs 0 0 6) (d : decode cc pc = .ok (.invokevirtual index, 3)) (kk : ∀ (r : Int32) (σ : Wd), Cm K nL cs (g r σ) σ (pc + 3) lv (.int r :: st)) : Cm K nL cs (bd (f_X3_unitsUpTo b a1 a2 σ) g) σ pc lv (.int a2 :: .int a1 :: .ref (K.G.A b) :: st) := r_cVi hO (c_X3_unitsUpTo hb a1 a2 σ) cal_X3_unitsUpTo hl rfl (isM_lt hb) (ent_X3 hb) rfl rfl hcat hR d kk
/-! OrderSplit_Market.lotOf -/
def f_X3_lotOf_20 (b : Nat)  (s0 : Int32) (σ : Wd) : Option (Int32 × Wd) := some (s0, σ)
def f_X3_lotOf (b : Nat) (a1 : Int32) (σ : Wd) : Option (Int32 × Wd) := gd (inb a1 5) (if (σ.1 (b + 2) (ix a1)) ≤ (1 : Int32) then (f_X3_lotOf_20 b (1 : Int32) σ) else (gd (inb a1 5) ((f_X3_lotOf_20 b (σ.1 (b + 2) (ix a1)) σ))))
set_option maxRecDepth 20000 in
set_option maxHeartbeats 1000000 in
theorem b_X3_lotOf_20 {K : Kt} {b : Nat}  (hO : Ok K cX3_lotOf RX3 2 rm_X3_lotOf) (hR : Rt K (some .int)) (hb : isM b)  (s0 : Int32) (σ : Wd)  : Cm K 2 (0, 0) (f_X3_lotOf_20 b s0 σ) σ 20 [] [.int s0] := by
  exact r_iret hO hR dX3_lotOf_20
set_option maxRecDepth 20000 in
set_option maxHeartbeats 1000000 in
theorem b_X3_lotOf {K : Kt} {b : Nat} (hO : Ok K cX3_lotOf RX3 2 rm_X3_lotOf) (hR : Rt K (some .int)) (hb : isM b) (a1 : Int32) (σ : Wd) : Cm K 2 (0, 0) (f_X3_lotOf b a1 σ) σ 0 [(0, .ref (K.G.A b)), (1, .int a1)] [] := by
  refine r_aload_n (i := 0) hO rfl rfl dX3_lotOf_0 ?_
  refine gX3_31 hO hb dX3_lotOf_1 ?_
  refine r_iload_n (i := 1) hO rfl rfl dX3_lotOf_4 ?_
  refine r_iald hO (sM_2 hb) dX3_lotOf_5 ?_
  refine r_iconst hO ci_1 dX3_lotOf_6 ?_
  refine r_icmp_le (tgt := 19) hO dX3_lotOf_7 (by decide) ?_ ?_
  · refine r_iconst hO ci_1 dX3_lotOf_19 ?_
    exact r_jmp (b_X3_lotOf_20 hO hR hb (1 : Int32) σ) lsub_n
  · refine r_aload_n (i := 0) hO rfl rfl dX3_lotOf_10 ?_
    refine gX3_31 hO hb dX3_lotOf_11 ?_
    refine r_iload_n (i := 1) hO rfl rfl dX3_lotOf_14 ?_
    refine r_iald hO (sM_2 hb) dX3_lotOf_15 ?_
    refine r_goto (tgt := 20) hO dX3_lotOf_16 (by decide) ?_
    exact r_jmp (b_X3_lotOf_20 hO hR hb (σ.1 (b + 2) (ix a1)) σ) lsub_n
theorem c_X3_lotOf {l : Launch} {G : Gh} {b : Nat} (hb : isM b) (a1 : Int32) (σ : Wd) : Con l G yX3_lotOf cX3_lotOf 2 (some .int) 0 0 [.ref (G.A b), .int a1] σ (f_X3_lotOf b a1 σ) := Con.of (plainFor_of_name (by decide)) rfl (Nat.le_of_ble_eq_true rfl) (fun K hl hG hO hR => by subst hl; subst hG; exact b_X3_lotOf hO hR hb a1 σ)
theorem cal_X3_lotOf : CalV yX3_lotOf cX3_lotOf 2 (some .int) 1 := ⟨a_27, a_28, a_29, a_6, by decide, by decide, by decide +kernel⟩
theorem k_X3_lotOf {K : Kt} {nL : Nat} {cs : Nat × Nat} {σ : Wd} {pc : Nat} {lv : List (Nat × Value)} {st : List Value} {cc : ByteArray} {own : String} {rm : Room} {index : Nat} {g : Int32 → Wd → Option (Int32 × Wd)} {b : Nat} {a1 : Int32} (hO : Ok K cc own nL rm) (hb : isM b) (hl : Cond.methodLink own index yX3_lotOf ∈ gtb) (hcat : Nat.ble ((st.map fun v => v.category).sum) 8 = true) (hR : RoomOk rm cs 0 0 2) (d : decode cc pc = .ok (.invokevirtual index, 3)) (kk : ∀ (r : Int32) (σ : Wd), Cm K nL cs (g r σ) σ (pc + 3) lv (.int r :: st)) : Cm K nL cs (bd (f_X3_lotOf b a1 σ) g) σ pc lv (.int a1 :: .ref (K.G.A b) :: st) := r_cVi hO (c_X3_lotOf hb a1 σ) cal_X3_lotOf hl rfl (isM_lt hb) (ent_X3 hb) rfl rfl hcat hR d kk
/-! OrderSplit_Market.wholeLots -/
def f_X3_wholeLots_20 (b : Nat)  (x1 : Int32) (s0 : Int32) (σ : Wd) : Option (Int32 × Wd) := bd (f_X3_lotOf b x1 σ) fun r1 σ2 => gd (!decide (r1 = 0)) (some (s0 - (s0 % r1), σ2))
def f_X3_wholeLots (b : Nat) (a1 : Int32) (a2 : Int32) (σ : Wd) : Option (Int32 × Wd) := bd (f_X3_unitsUpTo b a1 (σ.1 b 1) σ) fun r1 σ2 => if a2 ≤ r1 then (f_X3_wholeLots_20 b a1 a2 σ2) else (f_X3_wholeLots_20 b a1 r1 σ2)
set_option maxRecDepth 20000 in
set_option maxHeartbeats 1000000 in
theorem b_X3_wholeLots_20 {K : Kt} {b : Nat}  (hO : Ok K cX3_wholeLots RX3 5 rm_X3_wholeLots) (hR : Rt K (some .int)) (hb : isM b)  (x1 : Int32) (s0 : Int32) (σ : Wd)  : Cm K 5 (0, 0) (f_X3_wholeLots_20 b x1 s0 σ) σ 20 [(0, .ref (K.G.A b)), (1, .int x1)] [.int s0] := by
  refine r_istore hO rfl rfl dX3_wholeLots_20 ?_
  refine r_iload hO (d := dX3_wholeLots_22) rfl ?_
  refine r_iload hO (d := dX3_wholeLots_24) rfl ?_
  refine r_aload_n (i := 0) hO rfl rfl dX3_wholeLots_26 ?_
  refine r_iload_n (i := 1) hO rfl rfl dX3_wholeLots_27 ?_
  refine k_X3_lotOf hO hb a_31 rfl ⟨rfl, rfl, Nat.le_refl _, Nat.le_refl _⟩ dX3_wholeLots_28 ?_
  intro r1 σ2
  refine r_irem hO dX3_wholeLots_31 ?_
  refine r_isub hO dX3_wholeLots_32 ?_
  exact r_iret hO hR dX3_wholeLots_33
set_option maxRecDepth 20000 in
set_option maxHeartbeats 1000000 in
theorem b_X3_wholeLots {K : Kt} {b : Nat} (hO : Ok K cX3_wholeLots RX3 5 rm_X3_wholeLots) (hR : Rt K (some .int)) (hb : isM b) (a1 : Int32) (a2 : Int32) (σ : Wd) : Cm K 5 (0, 0) (f_X3_wholeLots b a1 a2 σ) σ 0 [(0, .ref (K.G.A b)), (1, .int a1), (2, .int a2)] [] := by
  refine r_aload_n (i := 0) hO rfl rfl dX3_wholeLots_0 ?_
  refine r_iload_n (i := 1) hO rfl rfl dX3_wholeLots_1 ?_
  refine r_aload_n (i := 0) hO rfl rfl dX3_wholeLots_2 ?_
  refine gX3_15 hO hb dX3_wholeLots_3 ?_
  refine k_X3_unitsUpTo hO hb a_30 rfl ⟨rfl, rfl, Nat.le_refl _, Nat.le_refl _⟩ dX3_wholeLots_6 ?_
  intro r1 σ2
  refine r_istore_n (i := 3) hO rfl rfl rfl dX3_wholeLots_9 ?_
  refine r_iload_n (i := 3) hO rfl rfl dX3_wholeLots_10 ?_
  refine r_iload_n (i := 2) hO rfl rfl dX3_wholeLots_11 ?_
  refine r_icmp_ge (tgt := 19) hO dX3_wholeLots_12 (by decide) ?_ ?_
  · refine r_iload_n (i := 2) hO rfl rfl dX3_wholeLots_19 ?_
    exact r_jmp (b_X3_wholeLots_20 hO hR hb a1 a2 σ2) (lsub_c rfl (lsub_c rfl lsub_n))
  · refine r_iload_n (i := 3) hO rfl rfl dX3_wholeLots_15 ?_
    refine r_goto (tgt := 20) hO dX3_wholeLots_16 (by decide) ?_
    exact r_jmp (b_X3_wholeLots_20 hO hR hb a1 r1 σ2) (lsub_c rfl (lsub_c rfl lsub_n))
theorem c_X3_wholeLots {l : Launch} {G : Gh} {b : Nat} (hb : isM b) (a1 : Int32) (a2 : Int32) (σ : Wd) : Con l G yX3_wholeLots cX3_wholeLots 5 (some .int) 1 25 [.ref (G.A b), .int a1, .int a2] σ (f_X3_wholeLots b a1 a2 σ) := Con.of (plainFor_of_name (by decide)) rfl (Nat.le_of_ble_eq_true rfl) (fun K hl hG hO hR => by subst hl; subst hG; exact b_X3_wholeLots hO hR hb a1 a2 σ)
theorem cal_X3_wholeLots : CalV yX3_wholeLots cX3_wholeLots 5 (some .int) 2 := ⟨a_32, a_33, a_34, a_6, by decide, by decide, by decide +kernel⟩
theorem k_X3_wholeLots {K : Kt} {nL : Nat} {cs : Nat × Nat} {σ : Wd} {pc : Nat} {lv : List (Nat × Value)} {st : List Value} {cc : ByteArray} {own : String} {rm : Room} {index : Nat} {g : Int32 → Wd → Option (Int32 × Wd)} {b : Nat} {a1 : Int32} {a2 : Int32} (hO : Ok K cc own nL rm) (hb : isM b) (hl : Cond.methodLink own index yX3_wholeLots ∈ gtb) (hcat : Nat.ble ((st.map fun v => v.category).sum) 8 = true) (hR : RoomOk rm cs 1 25 5) (d : decode cc pc = .ok (.invokevirtual index, 3)) (kk : ∀ (r : Int32) (σ : Wd), Cm K nL cs (g r σ) σ (pc + 3) lv (.int r :: st)) : Cm K nL cs (bd (f_X3_wholeLots b a1 a2 σ) g) σ pc lv (.int a2 :: .int a1 :: .ref (K.G.A b) :: st) := r_cVi hO (c_X3_wholeLots hb a1 a2 σ) cal_X3_wholeLots hl rfl (isM_lt hb) (ent_X3 hb) rfl rfl hcat hR d kk
/-! OrderSplit_Market.chargeOf -/
def f_X3_chargeOf_101 (b : Nat)  (s0 : Int32) (σ : Wd) : Option (Int32 × Wd) := some (s0, σ)
def f_X3_chargeOf_100 (b : Nat)  (x3 : Int32) (σ : Wd) : Option (Int32 × Wd) := (f_X3_chargeOf_101 b x3 σ)
def f_X3_chargeOf_72 (b : Nat)  (x1 : Int32) (x3 : Int32) (σ : Wd) : Option (Int32 × Wd) := gd (inb x1 5) (if (σ.1 (b + 3) (ix x1)) < 0 then (f_X3_chargeOf_100 b x3 σ) else (gd (inb x1 5) (if (σ.1 (b + 4) (ix x1)) ≤ x3 then (f_X3_chargeOf_100 b x3 σ) else (gd (inb x1 5) ((f_X3_chargeOf_101 b (σ.1 (b + 4) (ix x1)) σ))))))
def f_X3_chargeOf (b : Nat) (a1 : Int32) (a2 : Int32) (σ : Wd) : Option (Int32 × Wd) := if 0 < a2 then (gd (inb a1 5) (if (σ.1 (b + 1) (ix a1)) = (2 : Int32) then (gd (inb a1 5) (some (σ.1 (b + 4) (ix a1), σ))) else (gd (inb a1 5) (gd (inb a1 5) (if (σ.1 (b + 1) (ix a1)) = (1 : Int32) then (if a2 ≤ (20 : Int32) then (f_X3_chargeOf_72 b a1 ((σ.1 (b + 3) (ix a1)) * a2) σ) else (gd (inb a1 5) (gd (inb a1 5) ((f_X3_chargeOf_72 b a1 (((σ.1 (b + 3) (ix a1)) * (20 : Int32)) + (((σ.1 (b + 3) (ix a1)) >>> ((1 : Int32) &&& 31)) * (a2 - (20 : Int32)))) σ))))) else (f_X3_chargeOf_72 b a1 ((σ.1 (b + 3) (ix a1)) * a2) σ)))))) else (some ((0 : Int32), σ))
set_option maxRecDepth 20000 in
set_option maxHeartbeats 1000000 in
theorem b_X3_chargeOf_101 {K : Kt} {b : Nat}  (hO : Ok K cX3_chargeOf RX3 4 rm_X3_chargeOf) (hR : Rt K (some .int)) (hb : isM b)  (s0 : Int32) (σ : Wd)  : Cm K 4 (0, 0) (f_X3_chargeOf_101 b s0 σ) σ 101 [] [.int s0] := by
  exact r_iret hO hR dX3_chargeOf_101
set_option maxRecDepth 20000 in
set_option maxHeartbeats 1000000 in
theorem b_X3_chargeOf_100 {K : Kt} {b : Nat}  (hO : Ok K cX3_chargeOf RX3 4 rm_X3_chargeOf) (hR : Rt K (some .int)) (hb : isM b)  (x3 : Int32) (σ : Wd)  : Cm K 4 (0, 0) (f_X3_chargeOf_100 b x3 σ) σ 100 [(3, .int x3)] [] := by
  refine r_iload_n (i := 3) hO rfl rfl dX3_chargeOf_100 ?_
  exact r_jmp (b_X3_chargeOf_101 hO hR hb x3 σ) lsub_n
set_option maxRecDepth 20000 in
set_option maxHeartbeats 1000000 in
theorem b_X3_chargeOf_72 {K : Kt} {b : Nat}  (hO : Ok K cX3_chargeOf RX3 4 rm_X3_chargeOf) (hR : Rt K (some .int)) (hb : isM b)  (x1 : Int32) (x3 : Int32) (σ : Wd)  : Cm K 4 (0, 0) (f_X3_chargeOf_72 b x1 x3 σ) σ 72 [(0, .ref (K.G.A b)), (1, .int x1), (3, .int x3)] [] := by
  refine r_aload_n (i := 0) hO rfl rfl dX3_chargeOf_72 ?_
  refine gX3_34 hO hb dX3_chargeOf_73 ?_
  refine r_iload_n (i := 1) hO rfl rfl dX3_chargeOf_76 ?_
  refine r_iald hO (sM_3 hb) dX3_chargeOf_77 ?_
  refine r_if_lt (tgt := 100) hO dX3_chargeOf_78 (by decide) ?_ ?_
  · exact r_jmp (b_X3_chargeOf_100 hO hR hb x3 σ) (lsub_c rfl lsub_n)
  · refine r_iload_n (i := 3) hO rfl rfl dX3_chargeOf_81 ?_
    refine r_aload_n (i := 0) hO rfl rfl dX3_chargeOf_82 ?_
    refine gX3_37 hO hb dX3_chargeOf_83 ?_
    refine r_iload_n (i := 1) hO rfl rfl dX3_chargeOf_86 ?_
    refine r_iald hO (sM_4 hb) dX3_chargeOf_87 ?_
    refine r_icmp_ge (tgt := 100) hO dX3_chargeOf_88 (by decide) ?_ ?_
    · exact r_jmp (b_X3_chargeOf_100 hO hR hb x3 σ) (lsub_c rfl lsub_n)
    · refine r_aload_n (i := 0) hO rfl rfl dX3_chargeOf_91 ?_
      refine gX3_37 hO hb dX3_chargeOf_92 ?_
      refine r_iload_n (i := 1) hO rfl rfl dX3_chargeOf_95 ?_
      refine r_iald hO (sM_4 hb) dX3_chargeOf_96 ?_
      refine r_goto (tgt := 101) hO dX3_chargeOf_97 (by decide) ?_
      exact r_jmp (b_X3_chargeOf_101 hO hR hb (σ.1 (b + 4) (ix x1)) σ) lsub_n
set_option maxRecDepth 20000 in
set_option maxHeartbeats 1000000 in
theorem b_X3_chargeOf {K : Kt} {b : Nat} (hO : Ok K cX3_chargeOf RX3 4 rm_X3_chargeOf) (hR : Rt K (some .int)) (hb : isM b) (a1 : Int32) (a2 : Int32) (σ : Wd) : Cm K 4 (0, 0) (f_X3_chargeOf b a1 a2 σ) σ 0 [(0, .ref (K.G.A b)), (1, .int a1), (2, .int a2)] [] := by
  refine r_iload_n (i := 2) hO rfl rfl dX3_chargeOf_0 ?_
  refine r_if_gt (tgt := 6) hO dX3_chargeOf_1 (by decide) ?_ ?_
  · refine r_aload_n (i := 0) hO rfl rfl dX3_chargeOf_6 ?_
    refine gX3_27 hO hb dX3_chargeOf_7 ?_
    refine r_iload_n (i := 1) hO rfl rfl dX3_chargeOf_10 ?_
    refine r_iald hO (sM_1 hb) dX3_chargeOf_11 ?_
    refine r_iconst hO ci_2 dX3_chargeOf_12 ?_
    refine r_icmp_ne (tgt := 23) hO dX3_chargeOf_13 (by decide) ?_ ?_
    · refine r_aload_n (i := 0) hO rfl rfl dX3_chargeOf_16 ?_
      refine gX3_37 hO hb dX3_chargeOf_17 ?_
      refine r_iload_n (i := 1) hO rfl rfl dX3_chargeOf_20 ?_
      refine r_iald hO (sM_4 hb) dX3_chargeOf_21 ?_
      exact r_iret hO hR dX3_chargeOf_22
    · refine r_aload_n (i := 0) hO rfl rfl dX3_chargeOf_23 ?_
      refine gX3_34 hO hb dX3_chargeOf_24 ?_
      refine r_iload_n (i := 1) hO rfl rfl dX3_chargeOf_27 ?_
      refine r_iald hO (sM_3 hb) dX3_chargeOf_28 ?_
      refine r_iload_n (i := 2) hO rfl rfl dX3_chargeOf_29 ?_
      refine r_imul hO dX3_chargeOf_30 ?_
      refine r_istore_n (i := 3) hO rfl rfl rfl dX3_chargeOf_31 ?_
      refine r_aload_n (i := 0) hO rfl rfl dX3_chargeOf_32 ?_
      refine gX3_27 hO hb dX3_chargeOf_33 ?_
      refine r_iload_n (i := 1) hO rfl rfl dX3_chargeOf_36 ?_
      refine r_iald hO (sM_1 hb) dX3_chargeOf_37 ?_
      refine r_iconst hO ci_1 dX3_chargeOf_38 ?_
      refine r_icmp_ne (tgt := 72) hO dX3_chargeOf_39 (by decide) ?_ ?_
      · refine r_iload_n (i := 2) hO rfl rfl dX3_chargeOf_42 ?_
        refine r_bipush hO bi_20 dX3_chargeOf_43 ?_
        refine r_icmp_le (tgt := 72) hO dX3_chargeOf_45 (by decide) ?_ ?_
        · exact r_jmp (b_X3_chargeOf_72 hO hR hb a1 ((σ.1 (b + 3) (ix a1)) * a2) σ) (lsub_c rfl (lsub_c rfl (lsub_c rfl lsub_n)))
        · refine r_aload_n (i := 0) hO rfl rfl dX3_chargeOf_48 ?_
          refine gX3_34 hO hb dX3_chargeOf_49 ?_
          refine r_iload_n (i := 1) hO rfl rfl dX3_chargeOf_52 ?_
          refine r_iald hO (sM_3 hb) dX3_chargeOf_53 ?_
          refine r_bipush hO bi_20 dX3_chargeOf_54 ?_
          refine r_imul hO dX3_chargeOf_56 ?_
          refine r_aload_n (i := 0) hO rfl rfl dX3_chargeOf_57 ?_
          refine gX3_34 hO hb dX3_chargeOf_58 ?_
          refine r_iload_n (i := 1) hO rfl rfl dX3_chargeOf_61 ?_
          refine r_iald hO (sM_3 hb) dX3_chargeOf_62 ?_
          refine r_iconst hO ci_1 dX3_chargeOf_63 ?_
          refine r_ishr hO dX3_chargeOf_64 ?_
          refine r_iload_n (i := 2) hO rfl rfl dX3_chargeOf_65 ?_
          refine r_bipush hO bi_20 dX3_chargeOf_66 ?_
          refine r_isub hO dX3_chargeOf_68 ?_
          refine r_imul hO dX3_chargeOf_69 ?_
          refine r_iadd hO dX3_chargeOf_70 ?_
          refine r_istore_n (i := 3) hO rfl rfl rfl dX3_chargeOf_71 ?_
          exact r_jmp (b_X3_chargeOf_72 hO hR hb a1 (((σ.1 (b + 3) (ix a1)) * (20 : Int32)) + (((σ.1 (b + 3) (ix a1)) >>> ((1 : Int32) &&& 31)) * (a2 - (20 : Int32)))) σ) (lsub_c rfl (lsub_c rfl (lsub_c rfl lsub_n)))
      · exact r_jmp (b_X3_chargeOf_72 hO hR hb a1 ((σ.1 (b + 3) (ix a1)) * a2) σ) (lsub_c rfl (lsub_c rfl (lsub_c rfl lsub_n)))
  · refine r_iconst hO ci_0 dX3_chargeOf_4 ?_
    exact r_iret hO hR dX3_chargeOf_5
theorem c_X3_chargeOf {l : Launch} {G : Gh} {b : Nat} (hb : isM b) (a1 : Int32) (a2 : Int32) (σ : Wd) : Con l G yX3_chargeOf cX3_chargeOf 4 (some .int) 0 0 [.ref (G.A b), .int a1, .int a2] σ (f_X3_chargeOf b a1 a2 σ) := Con.of (plainFor_of_name (by decide)) rfl (Nat.le_of_ble_eq_true rfl) (fun K hl hG hO hR => by subst hl; subst hG; exact b_X3_chargeOf hO hR hb a1 a2 σ)
theorem cal_X3_chargeOf : CalV yX3_chargeOf cX3_chargeOf 4 (some .int) 2 := ⟨a_35, a_36, a_37, a_6, by decide, by decide, by decide +kernel⟩
theorem k_X3_chargeOf {K : Kt} {nL : Nat} {cs : Nat × Nat} {σ : Wd} {pc : Nat} {lv : List (Nat × Value)} {st : List Value} {cc : ByteArray} {own : String} {rm : Room} {index : Nat} {g : Int32 → Wd → Option (Int32 × Wd)} {b : Nat} {a1 : Int32} {a2 : Int32} (hO : Ok K cc own nL rm) (hb : isM b) (hl : Cond.methodLink own index yX3_chargeOf ∈ gtb) (hcat : Nat.ble ((st.map fun v => v.category).sum) 8 = true) (hR : RoomOk rm cs 0 0 4) (d : decode cc pc = .ok (.invokevirtual index, 3)) (kk : ∀ (r : Int32) (σ : Wd), Cm K nL cs (g r σ) σ (pc + 3) lv (.int r :: st)) : Cm K nL cs (bd (f_X3_chargeOf b a1 a2 σ) g) σ pc lv (.int a2 :: .int a1 :: .ref (K.G.A b) :: st) := r_cVi hO (c_X3_chargeOf hb a1 a2 σ) cal_X3_chargeOf hl rfl (isM_lt hb) (ent_X3 hb) rfl rfl hcat hR d kk
/-! OrderSplit_Market.costOf -/
def f_X3_costOf_63 (b : Nat) (k20 : Int32 → Int32 → Int32 → Int32 → Int32 → Wd → Option (Int32 × Wd)) (x1 : Int32) (x3 : Int32) (x4 : Int32) (x5 : Int32) (x6 : Int32) (s0 : Int32) (σ : Wd) : Option (Int32 × Wd) := gd (inb x6 30) ((k20 x1 (x3 + (s0 * (σ.1 (b + 8) (ix x6)))) (x4 - s0) x5 (x6 + (1 : Int32)) σ))
def f_X3_costOf_91 (b : Nat)  (x3 : Int32) (σ : Wd) : Option (Int32 × Wd) := some (x3, σ)
def f_X3_costOf_20 (b : Nat)  : Nat → Int32 → Int32 → Int32 → Int32 → Int32 → Wd → Option (Int32 × Wd)
  | 0 => fun _ _ _ _ _ _ => none
  | n + 1 => fun x1 x3 x4 x5 x6 σ => gd (inb x1 5) (if (x5 + (σ.1 (b + 6) (ix x1))) ≤ x6 then (f_X3_costOf_91 b x3 σ) else (if x4 ≤ 0 then (f_X3_costOf_91 b x3 σ) else (gd (inb x6 30) (if x4 ≤ (σ.1 (b + 9) (ix x6)) then (f_X3_costOf_63 b (f_X3_costOf_20 b n) x1 x3 x4 x5 x6 x4 σ) else (gd (inb x6 30) ((f_X3_costOf_63 b (f_X3_costOf_20 b n) x1 x3 x4 x5 x6 (σ.1 (b + 9) (ix x6)) σ)))))))
def f_X3_costOf (b : Nat) (a1 : Int32) (a2 : Int32) (σ : Wd) : Option (Int32 × Wd) := bd (f_X3_chargeOf b a1 a2 σ) fun r1 σ2 => (f_X3_costOf_20 b FU a1 r1 a2 (a1 * (6 : Int32)) (a1 * (6 : Int32)) σ2)
set_option maxRecDepth 20000 in
set_option maxHeartbeats 1000000 in
theorem b_X3_costOf_63 {K : Kt} {b : Nat} {k20 : Int32 → Int32 → Int32 → Int32 → Int32 → Wd → Option (Int32 × Wd)} (hO : Ok K cX3_costOf RX3 8 rm_X3_costOf) (hR : Rt K (some .int)) (hb : isM b)  (hk20 : ∀ (x1 : Int32) (x3 : Int32) (x4 : Int32) (x5 : Int32) (x6 : Int32) (σ : Wd), Cm K 8 (0, 0) (k20 x1 x3 x4 x5 x6 σ) σ 20 [(0, .ref (K.G.A b)), (1, .int x1), (3, .int x3), (4, .int x4), (5, .int x5), (6, .int x6)] []) (x1 : Int32) (x3 : Int32) (x4 : Int32) (x5 : Int32) (x6 : Int32) (s0 : Int32) (σ : Wd)  : Cm K 8 (0, 0) (f_X3_costOf_63 b k20 x1 x3 x4 x5 x6 s0 σ) σ 63 [(0, .ref (K.G.A b)), (1, .int x1), (3, .int x3), (4, .int x4), (5, .int x5), (6, .int x6)] [.int s0] := by
  refine r_istore hO rfl rfl dX3_costOf_63 ?_
  refine r_iload_n (i := 3) hO rfl rfl dX3_costOf_65 ?_
  refine r_iload hO (d := dX3_costOf_66) rfl ?_
  refine r_aload_n (i := 0) hO rfl rfl dX3_costOf_68 ?_
  refine gX3_49 hO hb dX3_costOf_69 ?_
  refine r_iload hO (d := dX3_costOf_72) rfl ?_
  refine r_iald hO (sM_8 hb) dX3_costOf_74 ?_
  refine r_imul hO dX3_costOf_75 ?_
  refine r_iadd hO dX3_costOf_76 ?_
  refine r_istore_n (i := 3) hO rfl rfl rfl dX3_costOf_77 ?_
  refine r_iload hO (d := dX3_costOf_78) rfl ?_
  refine r_iload hO (d := dX3_costOf_80) rfl ?_
  refine r_isub hO dX3_costOf_82 ?_
  refine r_istore hO rfl rfl dX3_costOf_83 ?_
  refine r_iinc hO rfl ci_1 rfl rfl dX3_costOf_85 ?_
  refine r_goto (tgt := 20) hO dX3_costOf_88 (by decide) ?_
  exact r_jmp (hk20 x1 (x3 + (s0 * (σ.1 (b + 8) (ix x6)))) (x4 - s0) x5 (x6 + (1 : Int32)) σ) (lsub_c rfl (lsub_c rfl (lsub_c rfl (lsub_c rfl (lsub_c rfl (lsub_c rfl lsub_n))))))
set_option maxRecDepth 20000 in
set_option maxHeartbeats 1000000 in
theorem b_X3_costOf_91 {K : Kt} {b : Nat}  (hO : Ok K cX3_costOf RX3 8 rm_X3_costOf) (hR : Rt K (some .int)) (hb : isM b)  (x3 : Int32) (σ : Wd)  : Cm K 8 (0, 0) (f_X3_costOf_91 b x3 σ) σ 91 [(3, .int x3)] [] := by
  refine r_iload_n (i := 3) hO rfl rfl dX3_costOf_91 ?_
  exact r_iret hO hR dX3_costOf_92
set_option maxRecDepth 20000 in
set_option maxHeartbeats 1000000 in
theorem b_X3_costOf_20 {K : Kt} {b : Nat}  (hO : Ok K cX3_costOf RX3 8 rm_X3_costOf) (hR : Rt K (some .int)) (hb : isM b)  : ∀ (n : Nat) (x1 : Int32) (x3 : Int32) (x4 : Int32) (x5 : Int32) (x6 : Int32) (σ : Wd) , Cm K 8 (0, 0) (f_X3_costOf_20 b n x1 x3 x4 x5 x6 σ) σ 20 [(0, .ref (K.G.A b)), (1, .int x1), (3, .int x3), (4, .int x4), (5, .int x5), (6, .int x6)] [] := by
  intro n
  induction n with
  | zero => intro x1 x3 x4 x5 x6 σ ; exact r_none
  | succ n ih =>
    intro x1 x3 x4 x5 x6 σ 
    refine r_iload hO (d := dX3_costOf_20) rfl ?_
    refine r_iload hO (d := dX3_costOf_22) rfl ?_
    refine r_aload_n (i := 0) hO rfl rfl dX3_costOf_24 ?_
    refine gX3_43 hO hb dX3_costOf_25 ?_
    refine r_iload_n (i := 1) hO rfl rfl dX3_costOf_28 ?_
    refine r_iald hO (sM_6 hb) dX3_costOf_29 ?_
    refine r_iadd hO dX3_costOf_30 ?_
    refine r_icmp_ge (tgt := 91) hO dX3_costOf_31 (by decide) ?_ ?_
    · exact r_jmp (b_X3_costOf_91 hO hR hb x3 σ) (lsub_c rfl lsub_n)
    · refine r_iload hO (d := dX3_costOf_34) rfl ?_
      refine r_if_le (tgt := 91) hO dX3_costOf_36 (by decide) ?_ ?_
      · exact r_jmp (b_X3_costOf_91 hO hR hb x3 σ) (lsub_c rfl lsub_n)
      · refine r_aload_n (i := 0) hO rfl rfl dX3_costOf_39 ?_
        refine gX3_52 hO hb dX3_costOf_40 ?_
        refine r_iload hO (d := dX3_costOf_43) rfl ?_
        refine r_iald hO (sM_9 hb) dX3_costOf_45 ?_
        refine r_iload hO (d := dX3_costOf_46) rfl ?_
        refine r_icmp_ge (tgt := 61) hO dX3_costOf_48 (by decide) ?_ ?_
        · refine r_iload hO (d := dX3_costOf_61) rfl ?_
          exact r_jmp (b_X3_costOf_63 hO hR hb ih x1 x3 x4 x5 x6 x4 σ) (lsub_c rfl (lsub_c rfl (lsub_c rfl (lsub_c rfl (lsub_c rfl (lsub_c rfl lsub_n))))))
        · refine r_aload_n (i := 0) hO rfl rfl dX3_costOf_51 ?_
          refine gX3_52 hO hb dX3_costOf_52 ?_
          refine r_iload hO (d := dX3_costOf_55) rfl ?_
          refine r_iald hO (sM_9 hb) dX3_costOf_57 ?_
          refine r_goto (tgt := 63) hO dX3_costOf_58 (by decide) ?_
          exact r_jmp (b_X3_costOf_63 hO hR hb ih x1 x3 x4 x5 x6 (σ.1 (b + 9) (ix x6)) σ) (lsub_c rfl (lsub_c rfl (lsub_c rfl (lsub_c rfl (lsub_c rfl (lsub_c rfl lsub_n))))))
set_option maxRecDepth 20000 in
set_option maxHeartbeats 1000000 in
theorem b_X3_costOf {K : Kt} {b : Nat} (hO : Ok K cX3_costOf RX3 8 rm_X3_costOf) (hR : Rt K (some .int)) (hb : isM b) (a1 : Int32) (a2 : Int32) (σ : Wd) : Cm K 8 (0, 0) (f_X3_costOf b a1 a2 σ) σ 0 [(0, .ref (K.G.A b)), (1, .int a1), (2, .int a2)] [] := by
  refine r_aload_n (i := 0) hO rfl rfl dX3_costOf_0 ?_
  refine r_iload_n (i := 1) hO rfl rfl dX3_costOf_1 ?_
  refine r_iload_n (i := 2) hO rfl rfl dX3_costOf_2 ?_
  refine k_X3_chargeOf hO hb a_38 rfl ⟨rfl, rfl, Nat.le_refl _, Nat.le_refl _⟩ dX3_costOf_3 ?_
  intro r1 σ2
  refine r_istore_n (i := 3) hO rfl rfl rfl dX3_costOf_6 ?_
  refine r_iload_n (i := 2) hO rfl rfl dX3_costOf_7 ?_
  refine r_istore hO rfl rfl dX3_costOf_8 ?_
  refine r_iload_n (i := 1) hO rfl rfl dX3_costOf_10 ?_
  refine r_bipush hO bi_6 dX3_costOf_11 ?_
  refine r_imul hO dX3_costOf_13 ?_
  refine r_istore hO rfl rfl dX3_costOf_14 ?_
  refine r_iload hO (d := dX3_costOf_16) rfl ?_
  refine r_istore hO rfl rfl dX3_costOf_18 ?_
  exact r_jmp (b_X3_costOf_20 hO hR hb FU a1 r1 a2 (a1 * (6 : Int32)) (a1 * (6 : Int32)) σ2) (lsub_c rfl (lsub_c rfl (lsub_c rfl (lsub_c rfl (lsub_c rfl (lsub_c rfl lsub_n))))))
theorem c_X3_costOf {l : Launch} {G : Gh} {b : Nat} (hb : isM b) (a1 : Int32) (a2 : Int32) (σ : Wd) : Con l G yX3_costOf cX3_costOf 8 (some .int) 1 23 [.ref (G.A b), .int a1, .int a2] σ (f_X3_costOf b a1 a2 σ) := Con.of (plainFor_of_name (by decide)) rfl (Nat.le_of_ble_eq_true rfl) (fun K hl hG hO hR => by subst hl; subst hG; exact b_X3_costOf hO hR hb a1 a2 σ)
theorem cal_X3_costOf : CalV yX3_costOf cX3_costOf 8 (some .int) 2 := ⟨a_39, a_40, a_41, a_6, by decide, by decide, by decide +kernel⟩
theorem k_X3_costOf {K : Kt} {nL : Nat} {cs : Nat × Nat} {σ : Wd} {pc : Nat} {lv : List (Nat × Value)} {st : List Value} {cc : ByteArray} {own : String} {rm : Room} {index : Nat} {g : Int32 → Wd → Option (Int32 × Wd)} {b : Nat} {a1 : Int32} {a2 : Int32} (hO : Ok K cc own nL rm) (hb : isM b) (hl : Cond.methodLink own index yX3_costOf ∈ gtb) (hcat : Nat.ble ((st.map fun v => v.category).sum) 8 = true) (hR : RoomOk rm cs 1 23 8) (d : decode cc pc = .ok (.invokevirtual index, 3)) (kk : ∀ (r : Int32) (σ : Wd), Cm K nL cs (g r σ) σ (pc + 3) lv (.int r :: st)) : Cm K nL cs (bd (f_X3_costOf b a1 a2 σ) g) σ pc lv (.int a2 :: .int a1 :: .ref (K.G.A b) :: st) := r_cVi hO (c_X3_costOf hb a1 a2 σ) cal_X3_costOf hl rfl (isM_lt hb) (ent_X3 hb) rfl rfl hcat hR d kk
/-! OrderSplit_Market.clear -/
def f_X3_clear_27 (b : Nat)  : Nat → Int32 → Wd → Option (Int32 × Wd)
  | 0 => fun _ _ => none
  | n + 1 => fun x1 σ => if (5 : Int32) ≤ x1 then (some (0, σ)) else (gd (inb x1 5) (nmW (wi σ (b + 6) (ix x1) (0 : Int32)) fun σ1 => gd (inb x1 5) (nmW (wi σ1 (b + 7) (ix x1) (0 : Int32)) fun σ2 => (f_X3_clear_27 b n (x1 + (1 : Int32)) σ2))))
def f_X3_clear (b : Nat) (σ : Wd) : Option (Int32 × Wd) := nmW (wi σ b 0 (0 : Int32)) fun σ1 => nmW (wi σ1 b 1 (0 : Int32)) fun σ2 => nmW (wi σ2 b 2 (0 : Int32)) fun σ3 => nmW (wi σ3 b 3 (0 : Int32)) fun σ4 => nmW (wi σ4 b 4 (0 : Int32)) fun σ5 => (f_X3_clear_27 b FU (0 : Int32) σ5)
set_option maxRecDepth 20000 in
set_option maxHeartbeats 1000000 in
theorem b_X3_clear_27 {K : Kt} {b : Nat}  (hO : Ok K cX3_clear RX3 2 rm_X3_clear) (hR : Rt K none) (hb : isM b)  : ∀ (n : Nat) (x1 : Int32) (σ : Wd) , Cm K 2 (0, 0) (f_X3_clear_27 b n x1 σ) σ 27 [(0, .ref (K.G.A b)), (1, .int x1)] [] := by
  intro n
  induction n with
  | zero => intro x1 σ ; exact r_none
  | succ n ih =>
    intro x1 σ 
    refine r_iload_n (i := 1) hO rfl rfl dX3_clear_27 ?_
    refine r_iconst hO ci_5 dX3_clear_28 ?_
    refine r_icmp_ge (tgt := 52) hO dX3_clear_29 (by decide) ?_ ?_
    · exact r_vret hO hR dX3_clear_52
    · refine r_aload_n (i := 0) hO rfl rfl dX3_clear_32 ?_
      refine gX3_43 hO hb dX3_clear_33 ?_
      refine r_iload_n (i := 1) hO rfl rfl dX3_clear_36 ?_
      refine r_iconst hO ci_0 dX3_clear_37 ?_
      refine r_iast hO (sM_6 hb) dX3_clear_38 ?_
      refine r_nmW fun σ1 => ?_
      refine r_aload_n (i := 0) hO rfl rfl dX3_clear_39 ?_
      refine gX3_46 hO hb dX3_clear_40 ?_
      refine r_iload_n (i := 1) hO rfl rfl dX3_clear_43 ?_
      refine r_iconst hO ci_0 dX3_clear_44 ?_
      refine r_iast hO (sM_7 hb) dX3_clear_45 ?_
      refine r_nmW fun σ2 => ?_
      refine r_iinc hO rfl ci_1 rfl rfl dX3_clear_46 ?_
      refine r_goto (tgt := 27) hO dX3_clear_49 (by decide) ?_
      exact r_jmp (ih (x1 + (1 : Int32)) σ2) (lsub_c rfl (lsub_c rfl lsub_n))
set_option maxRecDepth 20000 in
set_option maxHeartbeats 1000000 in
theorem b_X3_clear {K : Kt} {b : Nat} (hO : Ok K cX3_clear RX3 2 rm_X3_clear) (hR : Rt K none) (hb : isM b)  (σ : Wd) : Cm K 2 (0, 0) (f_X3_clear b σ) σ 0 [(0, .ref (K.G.A b))] [] := by
  refine r_aload_n (i := 0) hO rfl rfl dX3_clear_0 ?_
  refine r_iconst hO ci_0 dX3_clear_1 ?_
  refine pX3_9 hO hb dX3_clear_2 ?_
  refine r_nmW fun σ1 => ?_
  refine r_aload_n (i := 0) hO rfl rfl dX3_clear_5 ?_
  refine r_iconst hO ci_0 dX3_clear_6 ?_
  refine pX3_15 hO hb dX3_clear_7 ?_
  refine r_nmW fun σ2 => ?_
  refine r_aload_n (i := 0) hO rfl rfl dX3_clear_10 ?_
  refine r_iconst hO ci_0 dX3_clear_11 ?_
  refine pX3_18 hO hb dX3_clear_12 ?_
  refine r_nmW fun σ3 => ?_
  refine r_aload_n (i := 0) hO rfl rfl dX3_clear_15 ?_
  refine r_iconst hO ci_0 dX3_clear_16 ?_
  refine pX3_21 hO hb dX3_clear_17 ?_
  refine r_nmW fun σ4 => ?_
  refine r_aload_n (i := 0) hO rfl rfl dX3_clear_20 ?_
  refine r_iconst hO ci_0 dX3_clear_21 ?_
  refine pX3_24 hO hb dX3_clear_22 ?_
  refine r_nmW fun σ5 => ?_
  refine r_iconst hO ci_0 dX3_clear_25 ?_
  refine r_istore_n (i := 1) hO rfl rfl rfl dX3_clear_26 ?_
  exact r_jmp (b_X3_clear_27 hO hR hb FU (0 : Int32) σ5) (lsub_c rfl (lsub_c rfl lsub_n))
theorem c_X3_clear {l : Launch} {G : Gh} {b : Nat} (hb : isM b)  (σ : Wd) : Con l G yX3_clear cX3_clear 2 none 0 0 [.ref (G.A b)] σ (f_X3_clear b σ) := Con.of (plainFor_of_name (by decide)) rfl (Nat.le_of_ble_eq_true rfl) (fun K hl hG hO hR => by subst hl; subst hG; exact b_X3_clear hO hR hb  σ)
theorem cal_X3_clear : CalV yX3_clear cX3_clear 2 none 0 := ⟨a_104, a_105, a_106, a_6, by decide, by decide, by decide +kernel⟩
theorem k_X3_clear {K : Kt} {nL : Nat} {cs : Nat × Nat} {σ : Wd} {pc : Nat} {lv : List (Nat × Value)} {st : List Value} {cc : ByteArray} {own : String} {rm : Room} {index : Nat} {g : Int32 → Wd → Option (Int32 × Wd)} {b : Nat} (hO : Ok K cc own nL rm) (hb : isM b) (hl : Cond.methodLink own index yX3_clear ∈ gtb) (hcat : Nat.ble ((st.map fun v => v.category).sum) 8 = true) (hR : RoomOk rm cs 0 0 2) (d : decode cc pc = .ok (.invokevirtual index, 3)) (kk : ∀ (r : Int32) (σ : Wd), Cm K nL cs (g r σ) σ (pc + 3) lv st) : Cm K nL cs (bd (f_X3_clear b σ) g) σ pc lv (.ref (K.G.A b) :: st) := r_cVv hO (c_X3_clear hb  σ) cal_X3_clear hl rfl (isM_lt hb) (ent_X3 hb) rfl rfl hcat hR d kk
/-! OrderSplit_Market.copyFrom -/
def f_X3_copyFrom (b : Nat) (m1 : Nat) (σ : Wd) : Option (Int32 × Wd) := nmW (wi σ b 0 (σ.1 m1 0)) fun σ1 => nmW (wi σ1 b 1 (σ1.1 m1 1)) fun σ2 => nmW (wi σ2 b 2 (σ2.1 m1 2)) fun σ3 => nmW (wi σ3 b 3 (σ3.1 m1 3)) fun σ4 => nmW (wi σ4 b 4 (σ4.1 m1 4)) fun σ5 => nmW (wc σ5 (b + 1) (va_cpy (σ5.1 (m1 + 1)) (σ5.1 (b + 1)) 0 0 5)) fun σ6 => nmW (wc σ6 (b + 2) (va_cpy (σ6.1 (m1 + 2)) (σ6.1 (b + 2)) 0 0 5)) fun σ7 => nmW (wc σ7 (b + 3) (va_cpy (σ7.1 (m1 + 3)) (σ7.1 (b + 3)) 0 0 5)) fun σ8 => nmW (wc σ8 (b + 4) (va_cpy (σ8.1 (m1 + 4)) (σ8.1 (b + 4)) 0 0 5)) fun σ9 => nmW (wc σ9 (b + 5) (va_cpy (σ9.1 (m1 + 5)) (σ9.1 (b + 5)) 0 0 5)) fun σ10 => nmW (wc σ10 (b + 6) (va_cpy (σ10.1 (m1 + 6)) (σ10.1 (b + 6)) 0 0 5)) fun σ11 => nmW (wc σ11 (b + 7) (va_cpy (σ11.1 (m1 + 7)) (σ11.1 (b + 7)) 0 0 5)) fun σ12 => nmW (wc σ12 (b + 8) (va_cpy (σ12.1 (m1 + 8)) (σ12.1 (b + 8)) 0 0 30)) fun σ13 => nmW (wc σ13 (b + 9) (va_cpy (σ13.1 (m1 + 9)) (σ13.1 (b + 9)) 0 0 30)) fun σ14 => nmW (wc σ14 (b + 10) (va_cpy (σ14.1 (m1 + 10)) (σ14.1 (b + 10)) 0 0 10)) fun σ15 => nmW (wc σ15 (b + 11) (va_cpy (σ15.1 (m1 + 11)) (σ15.1 (b + 11)) 0 0 10)) fun σ16 => nmW (wc σ16 (b + 12) (va_cpy (σ16.1 (m1 + 12)) (σ16.1 (b + 12)) 0 0 10)) fun σ17 => some (0, σ17)
set_option maxRecDepth 20000 in
set_option maxHeartbeats 1000000 in
theorem b_X3_copyFrom {K : Kt} {b : Nat} {m1 : Nat} (hO : Ok K cX3_copyFrom RX3 2 rm_X3_copyFrom) (hR : Rt K none) (hb : isM b) (hm1 : isM m1)  (σ : Wd) : Cm K 2 (0, 0) (f_X3_copyFrom b m1 σ) σ 0 [(0, .ref (K.G.A b)), (1, .ref (K.G.A m1))] [] := by
  refine r_aload_n (i := 0) hO rfl rfl dX3_copyFrom_0 ?_
  refine r_aload_n (i := 1) hO rfl rfl dX3_copyFrom_1 ?_
  refine gX3_9 hO hm1 dX3_copyFrom_2 ?_
  refine pX3_9 hO hb dX3_copyFrom_5 ?_
  refine r_nmW fun σ1 => ?_
  refine r_aload_n (i := 0) hO rfl rfl dX3_copyFrom_8 ?_
  refine r_aload_n (i := 1) hO rfl rfl dX3_copyFrom_9 ?_
  refine gX3_15 hO hm1 dX3_copyFrom_10 ?_
  refine pX3_15 hO hb dX3_copyFrom_13 ?_
  refine r_nmW fun σ2 => ?_
  refine r_aload_n (i := 0) hO rfl rfl dX3_copyFrom_16 ?_
  refine r_aload_n (i := 1) hO rfl rfl dX3_copyFrom_17 ?_
  refine gX3_18 hO hm1 dX3_copyFrom_18 ?_
  refine pX3_18 hO hb dX3_copyFrom_21 ?_
  refine r_nmW fun σ3 => ?_
  refine r_aload_n (i := 0) hO rfl rfl dX3_copyFrom_24 ?_
  refine r_aload_n (i := 1) hO rfl rfl dX3_copyFrom_25 ?_
  refine gX3_21 hO hm1 dX3_copyFrom_26 ?_
  refine pX3_21 hO hb dX3_copyFrom_29 ?_
  refine r_nmW fun σ4 => ?_
  refine r_aload_n (i := 0) hO rfl rfl dX3_copyFrom_32 ?_
  refine r_aload_n (i := 1) hO rfl rfl dX3_copyFrom_33 ?_
  refine gX3_24 hO hm1 dX3_copyFrom_34 ?_
  refine pX3_24 hO hb dX3_copyFrom_37 ?_
  refine r_nmW fun σ5 => ?_
  refine r_aload_n (i := 1) hO rfl rfl dX3_copyFrom_40 ?_
  refine gX3_27 hO hm1 dX3_copyFrom_41 ?_
  refine r_iconst hO ci_0 dX3_copyFrom_44 ?_
  refine r_aload_n (i := 0) hO rfl rfl dX3_copyFrom_45 ?_
  refine gX3_27 hO hb dX3_copyFrom_46 ?_
  refine r_iconst hO ci_0 dX3_copyFrom_49 ?_
  refine r_iconst hO ci_5 dX3_copyFrom_50 ?_
  refine r_copy hO (sM_1 hm1) (sM_1 hb) a_107 a_87 a_88 a_89 rfl rfl (by decide) (by decide) (by decide) (by decide) dX3_copyFrom_51 ?_
  refine r_nmW fun σ6 => ?_
  refine r_aload_n (i := 1) hO rfl rfl dX3_copyFrom_54 ?_
  refine gX3_31 hO hm1 dX3_copyFrom_55 ?_
  refine r_iconst hO ci_0 dX3_copyFrom_58 ?_
  refine r_aload_n (i := 0) hO rfl rfl dX3_copyFrom_59 ?_
  refine gX3_31 hO hb dX3_copyFrom_60 ?_
  refine r_iconst hO ci_0 dX3_copyFrom_63 ?_
  refine r_iconst hO ci_5 dX3_copyFrom_64 ?_
  refine r_copy hO (sM_2 hm1) (sM_2 hb) a_107 a_87 a_88 a_89 rfl rfl (by decide) (by decide) (by decide) (by decide) dX3_copyFrom_65 ?_
  refine r_nmW fun σ7 => ?_
  refine r_aload_n (i := 1) hO rfl rfl dX3_copyFrom_68 ?_
  refine gX3_34 hO hm1 dX3_copyFrom_69 ?_
  refine r_iconst hO ci_0 dX3_copyFrom_72 ?_
  refine r_aload_n (i := 0) hO rfl rfl dX3_copyFrom_73 ?_
  refine gX3_34 hO hb dX3_copyFrom_74 ?_
  refine r_iconst hO ci_0 dX3_copyFrom_77 ?_
  refine r_iconst hO ci_5 dX3_copyFrom_78 ?_
  refine r_copy hO (sM_3 hm1) (sM_3 hb) a_107 a_87 a_88 a_89 rfl rfl (by decide) (by decide) (by decide) (by decide) dX3_copyFrom_79 ?_
  refine r_nmW fun σ8 => ?_
  refine r_aload_n (i := 1) hO rfl rfl dX3_copyFrom_82 ?_
  refine gX3_37 hO hm1 dX3_copyFrom_83 ?_
  refine r_iconst hO ci_0 dX3_copyFrom_86 ?_
  refine r_aload_n (i := 0) hO rfl rfl dX3_copyFrom_87 ?_
  refine gX3_37 hO hb dX3_copyFrom_88 ?_
  refine r_iconst hO ci_0 dX3_copyFrom_91 ?_
  refine r_iconst hO ci_5 dX3_copyFrom_92 ?_
  refine r_copy hO (sM_4 hm1) (sM_4 hb) a_107 a_87 a_88 a_89 rfl rfl (by decide) (by decide) (by decide) (by decide) dX3_copyFrom_93 ?_
  refine r_nmW fun σ9 => ?_
  refine r_aload_n (i := 1) hO rfl rfl dX3_copyFrom_96 ?_
  refine gX3_40 hO hm1 dX3_copyFrom_97 ?_
  refine r_iconst hO ci_0 dX3_copyFrom_100 ?_
  refine r_aload_n (i := 0) hO rfl rfl dX3_copyFrom_101 ?_
  refine gX3_40 hO hb dX3_copyFrom_102 ?_
  refine r_iconst hO ci_0 dX3_copyFrom_105 ?_
  refine r_iconst hO ci_5 dX3_copyFrom_106 ?_
  refine r_copy hO (sM_5 hm1) (sM_5 hb) a_107 a_87 a_88 a_89 rfl rfl (by decide) (by decide) (by decide) (by decide) dX3_copyFrom_107 ?_
  refine r_nmW fun σ10 => ?_
  refine r_aload_n (i := 1) hO rfl rfl dX3_copyFrom_110 ?_
  refine gX3_43 hO hm1 dX3_copyFrom_111 ?_
  refine r_iconst hO ci_0 dX3_copyFrom_114 ?_
  refine r_aload_n (i := 0) hO rfl rfl dX3_copyFrom_115 ?_
  refine gX3_43 hO hb dX3_copyFrom_116 ?_
  refine r_iconst hO ci_0 dX3_copyFrom_119 ?_
  refine r_iconst hO ci_5 dX3_copyFrom_120 ?_
  refine r_copy hO (sM_6 hm1) (sM_6 hb) a_107 a_87 a_88 a_89 rfl rfl (by decide) (by decide) (by decide) (by decide) dX3_copyFrom_121 ?_
  refine r_nmW fun σ11 => ?_
  refine r_aload_n (i := 1) hO rfl rfl dX3_copyFrom_124 ?_
  refine gX3_46 hO hm1 dX3_copyFrom_125 ?_
  refine r_iconst hO ci_0 dX3_copyFrom_128 ?_
  refine r_aload_n (i := 0) hO rfl rfl dX3_copyFrom_129 ?_
  refine gX3_46 hO hb dX3_copyFrom_130 ?_
  refine r_iconst hO ci_0 dX3_copyFrom_133 ?_
  refine r_iconst hO ci_5 dX3_copyFrom_134 ?_
  refine r_copy hO (sM_7 hm1) (sM_7 hb) a_107 a_87 a_88 a_89 rfl rfl (by decide) (by decide) (by decide) (by decide) dX3_copyFrom_135 ?_
  refine r_nmW fun σ12 => ?_
  refine r_aload_n (i := 1) hO rfl rfl dX3_copyFrom_138 ?_
  refine gX3_49 hO hm1 dX3_copyFrom_139 ?_
  refine r_iconst hO ci_0 dX3_copyFrom_142 ?_
  refine r_aload_n (i := 0) hO rfl rfl dX3_copyFrom_143 ?_
  refine gX3_49 hO hb dX3_copyFrom_144 ?_
  refine r_iconst hO ci_0 dX3_copyFrom_147 ?_
  refine r_bipush hO bi_30 dX3_copyFrom_148 ?_
  refine r_copy hO (sM_8 hm1) (sM_8 hb) a_107 a_87 a_88 a_89 rfl rfl (by decide) (by decide) (by decide) (by decide) dX3_copyFrom_150 ?_
  refine r_nmW fun σ13 => ?_
  refine r_aload_n (i := 1) hO rfl rfl dX3_copyFrom_153 ?_
  refine gX3_52 hO hm1 dX3_copyFrom_154 ?_
  refine r_iconst hO ci_0 dX3_copyFrom_157 ?_
  refine r_aload_n (i := 0) hO rfl rfl dX3_copyFrom_158 ?_
  refine gX3_52 hO hb dX3_copyFrom_159 ?_
  refine r_iconst hO ci_0 dX3_copyFrom_162 ?_
  refine r_bipush hO bi_30 dX3_copyFrom_163 ?_
  refine r_copy hO (sM_9 hm1) (sM_9 hb) a_107 a_87 a_88 a_89 rfl rfl (by decide) (by decide) (by decide) (by decide) dX3_copyFrom_165 ?_
  refine r_nmW fun σ14 => ?_
  refine r_aload_n (i := 1) hO rfl rfl dX3_copyFrom_168 ?_
  refine gX3_55 hO hm1 dX3_copyFrom_169 ?_
  refine r_iconst hO ci_0 dX3_copyFrom_172 ?_
  refine r_aload_n (i := 0) hO rfl rfl dX3_copyFrom_173 ?_
  refine gX3_55 hO hb dX3_copyFrom_174 ?_
  refine r_iconst hO ci_0 dX3_copyFrom_177 ?_
  refine r_bipush hO bi_10 dX3_copyFrom_178 ?_
  refine r_copy hO (sM_10 hm1) (sM_10 hb) a_107 a_87 a_88 a_89 rfl rfl (by decide) (by decide) (by decide) (by decide) dX3_copyFrom_180 ?_
  refine r_nmW fun σ15 => ?_
  refine r_aload_n (i := 1) hO rfl rfl dX3_copyFrom_183 ?_
  refine gX3_58 hO hm1 dX3_copyFrom_184 ?_
  refine r_iconst hO ci_0 dX3_copyFrom_187 ?_
  refine r_aload_n (i := 0) hO rfl rfl dX3_copyFrom_188 ?_
  refine gX3_58 hO hb dX3_copyFrom_189 ?_
  refine r_iconst hO ci_0 dX3_copyFrom_192 ?_
  refine r_bipush hO bi_10 dX3_copyFrom_193 ?_
  refine r_copy hO (sM_11 hm1) (sM_11 hb) a_107 a_87 a_88 a_89 rfl rfl (by decide) (by decide) (by decide) (by decide) dX3_copyFrom_195 ?_
  refine r_nmW fun σ16 => ?_
  refine r_aload_n (i := 1) hO rfl rfl dX3_copyFrom_198 ?_
  refine gX3_61 hO hm1 dX3_copyFrom_199 ?_
  refine r_iconst hO ci_0 dX3_copyFrom_202 ?_
  refine r_aload_n (i := 0) hO rfl rfl dX3_copyFrom_203 ?_
  refine gX3_61 hO hb dX3_copyFrom_204 ?_
  refine r_iconst hO ci_0 dX3_copyFrom_207 ?_
  refine r_bipush hO bi_10 dX3_copyFrom_208 ?_
  refine r_copy hO (sM_12 hm1) (sM_12 hb) a_107 a_87 a_88 a_89 rfl rfl (by decide) (by decide) (by decide) (by decide) dX3_copyFrom_210 ?_
  refine r_nmW fun σ17 => ?_
  exact r_vret hO hR dX3_copyFrom_213
theorem c_X3_copyFrom {l : Launch} {G : Gh} {b : Nat} {m1 : Nat} (hb : isM b) (hm1 : isM m1)  (σ : Wd) : Con l G yX3_copyFrom cX3_copyFrom 2 none 1 26 [.ref (G.A b), .ref (G.A m1)] σ (f_X3_copyFrom b m1 σ) := Con.of (plainFor_of_name (by decide)) rfl (Nat.le_of_ble_eq_true rfl) (fun K hl hG hO hR => by subst hl; subst hG; exact b_X3_copyFrom hO hR hb hm1  σ)
theorem cal_X3_copyFrom : CalV yX3_copyFrom cX3_copyFrom 2 none 1 := ⟨a_108, a_109, a_110, a_6, by decide, by decide, by decide +kernel⟩
theorem k_X3_copyFrom {K : Kt} {nL : Nat} {cs : Nat × Nat} {σ : Wd} {pc : Nat} {lv : List (Nat × Value)} {st : List Value} {cc : ByteArray} {own : String} {rm : Room} {index : Nat} {g : Int32 → Wd → Option (Int32 × Wd)} {b : Nat} {m1 : Nat} (hO : Ok K cc own nL rm) (hb : isM b) (hm1 : isM m1) (hl : Cond.methodLink own index yX3_copyFrom ∈ gtb) (hcat : Nat.ble ((st.map fun v => v.category).sum) 8 = true) (hR : RoomOk rm cs 1 26 2) (d : decode cc pc = .ok (.invokevirtual index, 3)) (kk : ∀ (r : Int32) (σ : Wd), Cm K nL cs (g r σ) σ (pc + 3) lv st) : Cm K nL cs (bd (f_X3_copyFrom b m1 σ) g) σ pc lv (.ref (K.G.A m1) :: .ref (K.G.A b) :: st) := r_cVv hO (c_X3_copyFrom hb hm1  σ) cal_X3_copyFrom hl rfl (isM_lt hb) (ent_X3 hb) rfl rfl hcat hR d kk
/-! OrderSplit_Market.depthOf -/
def f_X3_depthOf (b : Nat) (a1 : Int32) (σ : Wd) : Option (Int32 × Wd) := bd (f_X3_unitsUpTo b a1 (σ.1 b 1) σ) fun r1 σ2 => some (r1, σ2)
set_option maxRecDepth 20000 in
set_option maxHeartbeats 1000000 in
theorem b_X3_depthOf {K : Kt} {b : Nat} (hO : Ok K cX3_depthOf RX3 2 rm_X3_depthOf) (hR : Rt K (some .int)) (hb : isM b) (a1 : Int32) (σ : Wd) : Cm K 2 (0, 0) (f_X3_depthOf b a1 σ) σ 0 [(0, .ref (K.G.A b)), (1, .int a1)] [] := by
  refine r_aload_n (i := 0) hO rfl rfl dX3_depthOf_0 ?_
  refine r_iload_n (i := 1) hO rfl rfl dX3_depthOf_1 ?_
  refine r_aload_n (i := 0) hO rfl rfl dX3_depthOf_2 ?_
  refine gX3_15 hO hb dX3_depthOf_3 ?_
  refine k_X3_unitsUpTo hO hb a_30 rfl ⟨rfl, rfl, Nat.le_refl _, Nat.le_refl _⟩ dX3_depthOf_6 ?_
  intro r1 σ2
  exact r_iret hO hR dX3_depthOf_9
theorem c_X3_depthOf {l : Launch} {G : Gh} {b : Nat} (hb : isM b) (a1 : Int32) (σ : Wd) : Con l G yX3_depthOf cX3_depthOf 2 (some .int) 1 25 [.ref (G.A b), .int a1] σ (f_X3_depthOf b a1 σ) := Con.of (plainFor_of_name (by decide)) rfl (Nat.le_of_ble_eq_true rfl) (fun K hl hG hO hR => by subst hl; subst hG; exact b_X3_depthOf hO hR hb a1 σ)
theorem cal_X3_depthOf : CalV yX3_depthOf cX3_depthOf 2 (some .int) 1 := ⟨a_111, a_112, a_113, a_6, by decide, by decide, by decide +kernel⟩
theorem k_X3_depthOf {K : Kt} {nL : Nat} {cs : Nat × Nat} {σ : Wd} {pc : Nat} {lv : List (Nat × Value)} {st : List Value} {cc : ByteArray} {own : String} {rm : Room} {index : Nat} {g : Int32 → Wd → Option (Int32 × Wd)} {b : Nat} {a1 : Int32} (hO : Ok K cc own nL rm) (hb : isM b) (hl : Cond.methodLink own index yX3_depthOf ∈ gtb) (hcat : Nat.ble ((st.map fun v => v.category).sum) 8 = true) (hR : RoomOk rm cs 1 25 2) (d : decode cc pc = .ok (.invokevirtual index, 3)) (kk : ∀ (r : Int32) (σ : Wd), Cm K nL cs (g r σ) σ (pc + 3) lv (.int r :: st)) : Cm K nL cs (bd (f_X3_depthOf b a1 σ) g) σ pc lv (.int a1 :: .ref (K.G.A b) :: st) := r_cVi hO (c_X3_depthOf hb a1 σ) cal_X3_depthOf hl rfl (isM_lt hb) (ent_X3 hb) rfl rfl hcat hR d kk
/-! OrderSplit_Market.hasLotWithin -/
def f_X3_hasLotWithin_2 (b : Nat)  : Nat → Int32 → Int32 → Wd → Option (Int32 × Wd)
  | 0 => fun _ _ _ => none
  | n + 1 => fun x1 x2 σ => if (σ.1 b 3) ≤ x2 then (gd (isb (0 : Int32)) (some ((0 : Int32), σ))) else (bd (f_X3_wholeLots b x2 x1 σ) fun r1 σ2 => if r1 ≤ 0 then (f_X3_hasLotWithin_2 b n x1 (x2 + (1 : Int32)) σ2) else (gd (isb (1 : Int32)) (some ((1 : Int32), σ2))))
def f_X3_hasLotWithin (b : Nat) (a1 : Int32) (σ : Wd) : Option (Int32 × Wd) := (f_X3_hasLotWithin_2 b FU a1 (0 : Int32) σ)
set_option maxRecDepth 20000 in
set_option maxHeartbeats 1000000 in
theorem b_X3_hasLotWithin_2 {K : Kt} {b : Nat}  (hO : Ok K cX3_hasLotWithin RX3 3 rm_X3_hasLotWithin) (hR : Rt K (some .boolean)) (hb : isM b)  : ∀ (n : Nat) (x1 : Int32) (x2 : Int32) (σ : Wd) , Cm K 3 (0, 0) (f_X3_hasLotWithin_2 b n x1 x2 σ) σ 2 [(0, .ref (K.G.A b)), (1, .int x1), (2, .int x2)] [] := by
  intro n
  induction n with
  | zero => intro x1 x2 σ ; exact r_none
  | succ n ih =>
    intro x1 x2 σ 
    refine r_iload_n (i := 2) hO rfl rfl dX3_hasLotWithin_2 ?_
    refine r_aload_n (i := 0) hO rfl rfl dX3_hasLotWithin_3 ?_
    refine gX3_21 hO hb dX3_hasLotWithin_4 ?_
    refine r_icmp_ge (tgt := 27) hO dX3_hasLotWithin_7 (by decide) ?_ ?_
    · refine r_iconst hO ci_0 dX3_hasLotWithin_27 ?_
      exact r_zret hO hR dX3_hasLotWithin_28
    · refine r_aload_n (i := 0) hO rfl rfl dX3_hasLotWithin_10 ?_
      refine r_iload_n (i := 2) hO rfl rfl dX3_hasLotWithin_11 ?_
      refine r_iload_n (i := 1) hO rfl rfl dX3_hasLotWithin_12 ?_
      refine k_X3_wholeLots hO hb a_114 rfl ⟨rfl, rfl, Nat.le_refl _, Nat.le_refl _⟩ dX3_hasLotWithin_13 ?_
      intro r1 σ2
      refine r_if_le (tgt := 21) hO dX3_hasLotWithin_16 (by decide) ?_ ?_
      · refine r_iinc hO rfl ci_1 rfl rfl dX3_hasLotWithin_21 ?_
        refine r_goto (tgt := 2) hO dX3_hasLotWithin_24 (by decide) ?_
        exact r_jmp (ih x1 (x2 + (1 : Int32)) σ2) (lsub_c rfl (lsub_c rfl (lsub_c rfl lsub_n)))
      · refine r_iconst hO ci_1 dX3_hasLotWithin_19 ?_
        exact r_zret hO hR dX3_hasLotWithin_20
set_option maxRecDepth 20000 in
set_option maxHeartbeats 1000000 in
theorem b_X3_hasLotWithin {K : Kt} {b : Nat} (hO : Ok K cX3_hasLotWithin RX3 3 rm_X3_hasLotWithin) (hR : Rt K (some .boolean)) (hb : isM b) (a1 : Int32) (σ : Wd) : Cm K 3 (0, 0) (f_X3_hasLotWithin b a1 σ) σ 0 [(0, .ref (K.G.A b)), (1, .int a1)] [] := by
  refine r_iconst hO ci_0 dX3_hasLotWithin_0 ?_
  refine r_istore_n (i := 2) hO rfl rfl rfl dX3_hasLotWithin_1 ?_
  exact r_jmp (b_X3_hasLotWithin_2 hO hR hb FU a1 (0 : Int32) σ) (lsub_c rfl (lsub_c rfl (lsub_c rfl lsub_n)))
theorem c_X3_hasLotWithin {l : Launch} {G : Gh} {b : Nat} (hb : isM b) (a1 : Int32) (σ : Wd) : Con l G yX3_hasLotWithin cX3_hasLotWithin 3 (some .boolean) 2 49 [.ref (G.A b), .int a1] σ (f_X3_hasLotWithin b a1 σ) := Con.of (plainFor_of_name (by decide)) rfl (Nat.le_of_ble_eq_true rfl) (fun K hl hG hO hR => by subst hl; subst hG; exact b_X3_hasLotWithin hO hR hb a1 σ)
theorem cal_X3_hasLotWithin : CalV yX3_hasLotWithin cX3_hasLotWithin 3 (some .boolean) 1 := ⟨a_115, a_116, a_117, a_6, by decide, by decide, by decide +kernel⟩
theorem k_X3_hasLotWithin {K : Kt} {nL : Nat} {cs : Nat × Nat} {σ : Wd} {pc : Nat} {lv : List (Nat × Value)} {st : List Value} {cc : ByteArray} {own : String} {rm : Room} {index : Nat} {g : Int32 → Wd → Option (Int32 × Wd)} {b : Nat} {a1 : Int32} (hO : Ok K cc own nL rm) (hb : isM b) (hl : Cond.methodLink own index yX3_hasLotWithin ∈ gtb) (hcat : Nat.ble ((st.map fun v => v.category).sum) 8 = true) (hR : RoomOk rm cs 2 49 3) (d : decode cc pc = .ok (.invokevirtual index, 3)) (kk : ∀ (r : Int32) (σ : Wd), Cm K nL cs (g r σ) σ (pc + 3) lv (.int r :: st)) : Cm K nL cs (bd (f_X3_hasLotWithin b a1 σ) g) σ pc lv (.int a1 :: .ref (K.G.A b) :: st) := r_cVi hO (c_X3_hasLotWithin hb a1 σ) cal_X3_hasLotWithin hl rfl (isM_lt hb) (ent_X3 hb) rfl rfl hcat hR d kk
/-! OrderSplit_Market.canBeHad -/
def f_X3_canBeHad_34 (b : Nat)  (s0 : Int32) (σ : Wd) : Option (Int32 × Wd) := gd (isb s0) (some (s0, σ))
def f_X3_canBeHad_33 (b : Nat)   (σ : Wd) : Option (Int32 × Wd) := (f_X3_canBeHad_34 b (0 : Int32) σ)
def f_X3_canBeHad (b : Nat) (a1 : Int32) (a2 : Int32) (σ : Wd) : Option (Int32 × Wd) := if a2 < 0 then (f_X3_canBeHad_33 b σ) else (if (120 : Int32) < a2 then (f_X3_canBeHad_33 b σ) else (bd (f_X3_lotOf b a1 σ) fun r1 σ2 => gd (!decide (r1 = 0)) (if (a2 % r1) = 0 then (bd (f_X3_depthOf b a1 σ2) fun r3 σ4 => if r3 < a2 then (f_X3_canBeHad_33 b σ4) else (f_X3_canBeHad_34 b (1 : Int32) σ4)) else (f_X3_canBeHad_33 b σ2))))
set_option maxRecDepth 20000 in
set_option maxHeartbeats 1000000 in
theorem b_X3_canBeHad_34 {K : Kt} {b : Nat}  (hO : Ok K cX3_canBeHad RX3 3 rm_X3_canBeHad) (hR : Rt K (some .boolean)) (hb : isM b)  (s0 : Int32) (σ : Wd)  : Cm K 3 (0, 0) (f_X3_canBeHad_34 b s0 σ) σ 34 [] [.int s0] := by
  exact r_zret hO hR dX3_canBeHad_34
set_option maxRecDepth 20000 in
set_option maxHeartbeats 1000000 in
theorem b_X3_canBeHad_33 {K : Kt} {b : Nat}  (hO : Ok K cX3_canBeHad RX3 3 rm_X3_canBeHad) (hR : Rt K (some .boolean)) (hb : isM b)   (σ : Wd)  : Cm K 3 (0, 0) (f_X3_canBeHad_33 b  σ) σ 33 [] [] := by
  refine r_iconst hO ci_0 dX3_canBeHad_33 ?_
  exact r_jmp (b_X3_canBeHad_34 hO hR hb (0 : Int32) σ) lsub_n
set_option maxRecDepth 20000 in
set_option maxHeartbeats 1000000 in
theorem b_X3_canBeHad {K : Kt} {b : Nat} (hO : Ok K cX3_canBeHad RX3 3 rm_X3_canBeHad) (hR : Rt K (some .boolean)) (hb : isM b) (a1 : Int32) (a2 : Int32) (σ : Wd) : Cm K 3 (0, 0) (f_X3_canBeHad b a1 a2 σ) σ 0 [(0, .ref (K.G.A b)), (1, .int a1), (2, .int a2)] [] := by
  refine r_iload_n (i := 2) hO rfl rfl dX3_canBeHad_0 ?_
  refine r_if_lt (tgt := 33) hO dX3_canBeHad_1 (by decide) ?_ ?_
  · exact r_jmp (b_X3_canBeHad_33 hO hR hb σ) lsub_n
  · refine r_iload_n (i := 2) hO rfl rfl dX3_canBeHad_4 ?_
    refine r_bipush hO bi_120 dX3_canBeHad_5 ?_
    refine r_icmp_gt (tgt := 33) hO dX3_canBeHad_7 (by decide) ?_ ?_
    · exact r_jmp (b_X3_canBeHad_33 hO hR hb σ) lsub_n
    · refine r_iload_n (i := 2) hO rfl rfl dX3_canBeHad_10 ?_
      refine r_aload_n (i := 0) hO rfl rfl dX3_canBeHad_11 ?_
      refine r_iload_n (i := 1) hO rfl rfl dX3_canBeHad_12 ?_
      refine k_X3_lotOf hO hb a_31 rfl ⟨rfl, rfl, Nat.le_refl _, Nat.le_refl _⟩ dX3_canBeHad_13 ?_
      intro r1 σ2
      refine r_irem hO dX3_canBeHad_16 ?_
      refine r_if_ne (tgt := 33) hO dX3_canBeHad_17 (by decide) ?_ ?_
      · refine r_iload_n (i := 2) hO rfl rfl dX3_canBeHad_20 ?_
        refine r_aload_n (i := 0) hO rfl rfl dX3_canBeHad_21 ?_
        refine r_iload_n (i := 1) hO rfl rfl dX3_canBeHad_22 ?_
        refine k_X3_depthOf hO hb a_118 rfl ⟨rfl, rfl, Nat.le_refl _, Nat.le_refl _⟩ dX3_canBeHad_23 ?_
        intro r3 σ4
        refine r_icmp_gt (tgt := 33) hO dX3_canBeHad_26 (by decide) ?_ ?_
        · exact r_jmp (b_X3_canBeHad_33 hO hR hb σ4) lsub_n
        · refine r_iconst hO ci_1 dX3_canBeHad_29 ?_
          refine r_goto (tgt := 34) hO dX3_canBeHad_30 (by decide) ?_
          exact r_jmp (b_X3_canBeHad_34 hO hR hb (1 : Int32) σ4) lsub_n
      · exact r_jmp (b_X3_canBeHad_33 hO hR hb σ2) lsub_n
theorem c_X3_canBeHad {l : Launch} {G : Gh} {b : Nat} (hb : isM b) (a1 : Int32) (a2 : Int32) (σ : Wd) : Con l G yX3_canBeHad cX3_canBeHad 3 (some .boolean) 2 46 [.ref (G.A b), .int a1, .int a2] σ (f_X3_canBeHad b a1 a2 σ) := Con.of (plainFor_of_name (by decide)) rfl (Nat.le_of_ble_eq_true rfl) (fun K hl hG hO hR => by subst hl; subst hG; exact b_X3_canBeHad hO hR hb a1 a2 σ)
theorem cal_X3_canBeHad : CalV yX3_canBeHad cX3_canBeHad 3 (some .boolean) 2 := ⟨a_119, a_120, a_121, a_6, by decide, by decide, by decide +kernel⟩
theorem k_X3_canBeHad {K : Kt} {nL : Nat} {cs : Nat × Nat} {σ : Wd} {pc : Nat} {lv : List (Nat × Value)} {st : List Value} {cc : ByteArray} {own : String} {rm : Room} {index : Nat} {g : Int32 → Wd → Option (Int32 × Wd)} {b : Nat} {a1 : Int32} {a2 : Int32} (hO : Ok K cc own nL rm) (hb : isM b) (hl : Cond.methodLink own index yX3_canBeHad ∈ gtb) (hcat : Nat.ble ((st.map fun v => v.category).sum) 8 = true) (hR : RoomOk rm cs 2 46 3) (d : decode cc pc = .ok (.invokevirtual index, 3)) (kk : ∀ (r : Int32) (σ : Wd), Cm K nL cs (g r σ) σ (pc + 3) lv (.int r :: st)) : Cm K nL cs (bd (f_X3_canBeHad b a1 a2 σ) g) σ pc lv (.int a2 :: .int a1 :: .ref (K.G.A b) :: st) := r_cVi hO (c_X3_canBeHad hb a1 a2 σ) cal_X3_canBeHad hl rfl (isM_lt hb) (ent_X3 hb) rfl rfl hcat hR d kk
/-! OrderSplit_Market.capOf -/
def f_X3_capOf_64 (b : Nat) (k15 : Int32 → Int32 → Int32 → Int32 → Int32 → Wd → Option (Int32 × Wd)) (x1 : Int32) (x3 : Int32) (x4 : Int32) (x5 : Int32) (x6 : Int32) (σ : Wd) : Option (Int32 × Wd) := (k15 x1 x3 x4 x5 (x6 + (1 : Int32)) σ)
def f_X3_capOf_70 (b : Nat)  (x3 : Int32) (σ : Wd) : Option (Int32 × Wd) := some (x3, σ)
def f_X3_capOf_15 (b : Nat)  : Nat → Int32 → Int32 → Int32 → Int32 → Int32 → Wd → Option (Int32 × Wd)
  | 0 => fun _ _ _ _ _ _ => none
  | n + 1 => fun x1 x3 x4 x5 x6 σ => gd (inb x1 5) (if (x5 + (σ.1 (b + 6) (ix x1))) ≤ x6 then (f_X3_capOf_70 b x3 σ) else (if x4 ≤ 0 then (f_X3_capOf_70 b x3 σ) else (gd (inb x6 30) (if (σ.1 (b + 9) (ix x6)) ≤ 0 then (f_X3_capOf_64 b (f_X3_capOf_15 b n) x1 x3 x4 x5 x6 σ) else (gd (inb x6 30) (gd (inb x6 30) ((f_X3_capOf_64 b (f_X3_capOf_15 b n) x1 (σ.1 (b + 8) (ix x6)) (x4 - (σ.1 (b + 9) (ix x6))) x5 x6 σ))))))))
def f_X3_capOf (b : Nat) (a1 : Int32) (a2 : Int32) (σ : Wd) : Option (Int32 × Wd) := (f_X3_capOf_15 b FU a1 (0 : Int32) a2 (a1 * (6 : Int32)) (a1 * (6 : Int32)) σ)
set_option maxRecDepth 20000 in
set_option maxHeartbeats 1000000 in
theorem b_X3_capOf_64 {K : Kt} {b : Nat} {k15 : Int32 → Int32 → Int32 → Int32 → Int32 → Wd → Option (Int32 × Wd)} (hO : Ok K cX3_capOf RX3 7 rm_X3_capOf) (hR : Rt K (some .int)) (hb : isM b)  (hk15 : ∀ (x1 : Int32) (x3 : Int32) (x4 : Int32) (x5 : Int32) (x6 : Int32) (σ : Wd), Cm K 7 (0, 0) (k15 x1 x3 x4 x5 x6 σ) σ 15 [(0, .ref (K.G.A b)), (1, .int x1), (3, .int x3), (4, .int x4), (5, .int x5), (6, .int x6)] []) (x1 : Int32) (x3 : Int32) (x4 : Int32) (x5 : Int32) (x6 : Int32) (σ : Wd)  : Cm K 7 (0, 0) (f_X3_capOf_64 b k15 x1 x3 x4 x5 x6 σ) σ 64 [(0, .ref (K.G.A b)), (1, .int x1), (3, .int x3), (4, .int x4), (5, .int x5), (6, .int x6)] [] := by
  refine r_iinc hO rfl ci_1 rfl rfl dX3_capOf_64 ?_
  refine r_goto (tgt := 15) hO dX3_capOf_67 (by decide) ?_
  exact r_jmp (hk15 x1 x3 x4 x5 (x6 + (1 : Int32)) σ) (lsub_c rfl (lsub_c rfl (lsub_c rfl (lsub_c rfl (lsub_c rfl (lsub_c rfl lsub_n))))))
set_option maxRecDepth 20000 in
set_option maxHeartbeats 1000000 in
theorem b_X3_capOf_70 {K : Kt} {b : Nat}  (hO : Ok K cX3_capOf RX3 7 rm_X3_capOf) (hR : Rt K (some .int)) (hb : isM b)  (x3 : Int32) (σ : Wd)  : Cm K 7 (0, 0) (f_X3_capOf_70 b x3 σ) σ 70 [(3, .int x3)] [] := by
  refine r_iload_n (i := 3) hO rfl rfl dX3_capOf_70 ?_
  exact r_iret hO hR dX3_capOf_71
set_option maxRecDepth 20000 in
set_option maxHeartbeats 1000000 in
theorem b_X3_capOf_15 {K : Kt} {b : Nat}  (hO : Ok K cX3_capOf RX3 7 rm_X3_capOf) (hR : Rt K (some .int)) (hb : isM b)  : ∀ (n : Nat) (x1 : Int32) (x3 : Int32) (x4 : Int32) (x5 : Int32) (x6 : Int32) (σ : Wd) , Cm K 7 (0, 0) (f_X3_capOf_15 b n x1 x3 x4 x5 x6 σ) σ 15 [(0, .ref (K.G.A b)), (1, .int x1), (3, .int x3), (4, .int x4), (5, .int x5), (6, .int x6)] [] := by
  intro n
  induction n with
  | zero => intro x1 x3 x4 x5 x6 σ ; exact r_none
  | succ n ih =>
    intro x1 x3 x4 x5 x6 σ 
    refine r_iload hO (d := dX3_capOf_15) rfl ?_
    refine r_iload hO (d := dX3_capOf_17) rfl ?_
    refine r_aload_n (i := 0) hO rfl rfl dX3_capOf_19 ?_
    refine gX3_43 hO hb dX3_capOf_20 ?_
    refine r_iload_n (i := 1) hO rfl rfl dX3_capOf_23 ?_
    refine r_iald hO (sM_6 hb) dX3_capOf_24 ?_
    refine r_iadd hO dX3_capOf_25 ?_
    refine r_icmp_ge (tgt := 70) hO dX3_capOf_26 (by decide) ?_ ?_
    · exact r_jmp (b_X3_capOf_70 hO hR hb x3 σ) (lsub_c rfl lsub_n)
    · refine r_iload hO (d := dX3_capOf_29) rfl ?_
      refine r_if_le (tgt := 70) hO dX3_capOf_31 (by decide) ?_ ?_
      · exact r_jmp (b_X3_capOf_70 hO hR hb x3 σ) (lsub_c rfl lsub_n)
      · refine r_aload_n (i := 0) hO rfl rfl dX3_capOf_34 ?_
        refine gX3_52 hO hb dX3_capOf_35 ?_
        refine r_iload hO (d := dX3_capOf_38) rfl ?_
        refine r_iald hO (sM_9 hb) dX3_capOf_40 ?_
        refine r_if_le (tgt := 64) hO dX3_capOf_41 (by decide) ?_ ?_
        · exact r_jmp (b_X3_capOf_64 hO hR hb ih x1 x3 x4 x5 x6 σ) (lsub_c rfl (lsub_c rfl (lsub_c rfl (lsub_c rfl (lsub_c rfl (lsub_c rfl lsub_n))))))
        · refine r_aload_n (i := 0) hO rfl rfl dX3_capOf_44 ?_
          refine gX3_49 hO hb dX3_capOf_45 ?_
          refine r_iload hO (d := dX3_capOf_48) rfl ?_
          refine r_iald hO (sM_8 hb) dX3_capOf_50 ?_
          refine r_istore_n (i := 3) hO rfl rfl rfl dX3_capOf_51 ?_
          refine r_iload hO (d := dX3_capOf_52) rfl ?_
          refine r_aload_n (i := 0) hO rfl rfl dX3_capOf_54 ?_
          refine gX3_52 hO hb dX3_capOf_55 ?_
          refine r_iload hO (d := dX3_capOf_58) rfl ?_
          refine r_iald hO (sM_9 hb) dX3_capOf_60 ?_
          refine r_isub hO dX3_capOf_61 ?_
          refine r_istore hO rfl rfl dX3_capOf_62 ?_
          exact r_jmp (b_X3_capOf_64 hO hR hb ih x1 (σ.1 (b + 8) (ix x6)) (x4 - (σ.1 (b + 9) (ix x6))) x5 x6 σ) (lsub_c rfl (lsub_c rfl (lsub_c rfl (lsub_c rfl (lsub_c rfl (lsub_c rfl lsub_n))))))
set_option maxRecDepth 20000 in
set_option maxHeartbeats 1000000 in
theorem b_X3_capOf {K : Kt} {b : Nat} (hO : Ok K cX3_capOf RX3 7 rm_X3_capOf) (hR : Rt K (some .int)) (hb : isM b) (a1 : Int32) (a2 : Int32) (σ : Wd) : Cm K 7 (0, 0) (f_X3_capOf b a1 a2 σ) σ 0 [(0, .ref (K.G.A b)), (1, .int a1), (2, .int a2)] [] := by
  refine r_iconst hO ci_0 dX3_capOf_0 ?_
  refine r_istore_n (i := 3) hO rfl rfl rfl dX3_capOf_1 ?_
  refine r_iload_n (i := 2) hO rfl rfl dX3_capOf_2 ?_
  refine r_istore hO rfl rfl dX3_capOf_3 ?_
  refine r_iload_n (i := 1) hO rfl rfl dX3_capOf_5 ?_
  refine r_bipush hO bi_6 dX3_capOf_6 ?_
  refine r_imul hO dX3_capOf_8 ?_
  refine r_istore hO rfl rfl dX3_capOf_9 ?_
  refine r_iload hO (d := dX3_capOf_11) rfl ?_
  refine r_istore hO rfl rfl dX3_capOf_13 ?_
  exact r_jmp (b_X3_capOf_15 hO hR hb FU a1 (0 : Int32) a2 (a1 * (6 : Int32)) (a1 * (6 : Int32)) σ) (lsub_c rfl (lsub_c rfl (lsub_c rfl (lsub_c rfl (lsub_c rfl (lsub_c rfl lsub_n))))))
theorem c_X3_capOf {l : Launch} {G : Gh} {b : Nat} (hb : isM b) (a1 : Int32) (a2 : Int32) (σ : Wd) : Con l G yX3_capOf cX3_capOf 7 (some .int) 0 0 [.ref (G.A b), .int a1, .int a2] σ (f_X3_capOf b a1 a2 σ) := Con.of (plainFor_of_name (by decide)) rfl (Nat.le_of_ble_eq_true rfl) (fun K hl hG hO hR => by subst hl; subst hG; exact b_X3_capOf hO hR hb a1 a2 σ)
theorem cal_X3_capOf : CalV yX3_capOf cX3_capOf 7 (some .int) 2 := ⟨a_122, a_123, a_124, a_6, by decide, by decide, by decide +kernel⟩
theorem k_X3_capOf {K : Kt} {nL : Nat} {cs : Nat × Nat} {σ : Wd} {pc : Nat} {lv : List (Nat × Value)} {st : List Value} {cc : ByteArray} {own : String} {rm : Room} {index : Nat} {g : Int32 → Wd → Option (Int32 × Wd)} {b : Nat} {a1 : Int32} {a2 : Int32} (hO : Ok K cc own nL rm) (hb : isM b) (hl : Cond.methodLink own index yX3_capOf ∈ gtb) (hcat : Nat.ble ((st.map fun v => v.category).sum) 8 = true) (hR : RoomOk rm cs 0 0 7) (d : decode cc pc = .ok (.invokevirtual index, 3)) (kk : ∀ (r : Int32) (σ : Wd), Cm K nL cs (g r σ) σ (pc + 3) lv (.int r :: st)) : Cm K nL cs (bd (f_X3_capOf b a1 a2 σ) g) σ pc lv (.int a2 :: .int a1 :: .ref (K.G.A b) :: st) := r_cVi hO (c_X3_capOf hb a1 a2 σ) cal_X3_capOf hl rfl (isM_lt hb) (ent_X3 hb) rfl rfl hcat hR d kk
/-! OrderSplit_Market.planUnits -/
def f_X3_planUnits_4 (b : Nat)  : Nat → Int32 → Int32 → Wd → Option (Int32 × Wd)
  | 0 => fun _ _ _ => none
  | n + 1 => fun x1 x2 σ => if (σ.1 b 3) ≤ x2 then (some (x1, σ)) else (gd (inb x2 5) ((f_X3_planUnits_4 b n (x1 + (σ.1 (b + 7) (ix x2))) (x2 + (1 : Int32)) σ)))
def f_X3_planUnits (b : Nat) (σ : Wd) : Option (Int32 × Wd) := (f_X3_planUnits_4 b FU (0 : Int32) (0 : Int32) σ)
set_option maxRecDepth 20000 in
set_option maxHeartbeats 1000000 in
theorem b_X3_planUnits_4 {K : Kt} {b : Nat}  (hO : Ok K cX3_planUnits RX3 3 rm_X3_planUnits) (hR : Rt K (some .int)) (hb : isM b)  : ∀ (n : Nat) (x1 : Int32) (x2 : Int32) (σ : Wd) , Cm K 3 (0, 0) (f_X3_planUnits_4 b n x1 x2 σ) σ 4 [(0, .ref (K.G.A b)), (1, .int x1), (2, .int x2)] [] := by
  intro n
  induction n with
  | zero => intro x1 x2 σ ; exact r_none
  | succ n ih =>
    intro x1 x2 σ 
    refine r_iload_n (i := 2) hO rfl rfl dX3_planUnits_4 ?_
    refine r_aload_n (i := 0) hO rfl rfl dX3_planUnits_5 ?_
    refine gX3_21 hO hb dX3_planUnits_6 ?_
    refine r_icmp_ge (tgt := 27) hO dX3_planUnits_9 (by decide) ?_ ?_
    · refine r_iload_n (i := 1) hO rfl rfl dX3_planUnits_27 ?_
      exact r_iret hO hR dX3_planUnits_28
    · refine r_iload_n (i := 1) hO rfl rfl dX3_planUnits_12 ?_
      refine r_aload_n (i := 0) hO rfl rfl dX3_planUnits_13 ?_
      refine gX3_46 hO hb dX3_planUnits_14 ?_
      refine r_iload_n (i := 2) hO rfl rfl dX3_planUnits_17 ?_
      refine r_iald hO (sM_7 hb) dX3_planUnits_18 ?_
      refine r_iadd hO dX3_planUnits_19 ?_
      refine r_istore_n (i := 1) hO rfl rfl rfl dX3_planUnits_20 ?_
      refine r_iinc hO rfl ci_1 rfl rfl dX3_planUnits_21 ?_
      refine r_goto (tgt := 4) hO dX3_planUnits_24 (by decide) ?_
      exact r_jmp (ih (x1 + (σ.1 (b + 7) (ix x2))) (x2 + (1 : Int32)) σ) (lsub_c rfl (lsub_c rfl (lsub_c rfl lsub_n)))
set_option maxRecDepth 20000 in
set_option maxHeartbeats 1000000 in
theorem b_X3_planUnits {K : Kt} {b : Nat} (hO : Ok K cX3_planUnits RX3 3 rm_X3_planUnits) (hR : Rt K (some .int)) (hb : isM b)  (σ : Wd) : Cm K 3 (0, 0) (f_X3_planUnits b σ) σ 0 [(0, .ref (K.G.A b))] [] := by
  refine r_iconst hO ci_0 dX3_planUnits_0 ?_
  refine r_istore_n (i := 1) hO rfl rfl rfl dX3_planUnits_1 ?_
  refine r_iconst hO ci_0 dX3_planUnits_2 ?_
  refine r_istore_n (i := 2) hO rfl rfl rfl dX3_planUnits_3 ?_
  exact r_jmp (b_X3_planUnits_4 hO hR hb FU (0 : Int32) (0 : Int32) σ) (lsub_c rfl (lsub_c rfl (lsub_c rfl lsub_n)))
theorem c_X3_planUnits {l : Launch} {G : Gh} {b : Nat} (hb : isM b)  (σ : Wd) : Con l G yX3_planUnits cX3_planUnits 3 (some .int) 0 0 [.ref (G.A b)] σ (f_X3_planUnits b σ) := Con.of (plainFor_of_name (by decide)) rfl (Nat.le_of_ble_eq_true rfl) (fun K hl hG hO hR => by subst hl; subst hG; exact b_X3_planUnits hO hR hb  σ)
theorem cal_X3_planUnits : CalV yX3_planUnits cX3_planUnits 3 (some .int) 0 := ⟨a_125, a_126, a_127, a_6, by decide, by decide, by decide +kernel⟩
theorem k_X3_planUnits {K : Kt} {nL : Nat} {cs : Nat × Nat} {σ : Wd} {pc : Nat} {lv : List (Nat × Value)} {st : List Value} {cc : ByteArray} {own : String} {rm : Room} {index : Nat} {g : Int32 → Wd → Option (Int32 × Wd)} {b : Nat} (hO : Ok K cc own nL rm) (hb : isM b) (hl : Cond.methodLink own index yX3_planUnits ∈ gtb) (hcat : Nat.ble ((st.map fun v => v.category).sum) 8 = true) (hR : RoomOk rm cs 0 0 3) (d : decode cc pc = .ok (.invokevirtual index, 3)) (kk : ∀ (r : Int32) (σ : Wd), Cm K nL cs (g r σ) σ (pc + 3) lv (.int r :: st)) : Cm K nL cs (bd (f_X3_planUnits b σ) g) σ pc lv (.ref (K.G.A b) :: st) := r_cVi hO (c_X3_planUnits hb  σ) cal_X3_planUnits hl rfl (isM_lt hb) (ent_X3 hb) rfl rfl hcat hR d kk
/-! OrderSplit_Market.planCost -/
def f_X3_planCost_4 (b : Nat)  : Nat → Int32 → Int32 → Wd → Option (Int32 × Wd)
  | 0 => fun _ _ _ => none
  | n + 1 => fun x1 x2 σ => if (σ.1 b 3) ≤ x2 then (some (x1, σ)) else (gd (inb x2 5) (bd (f_X3_costOf b x2 (σ.1 (b + 7) (ix x2)) σ) fun r1 σ2 => (f_X3_planCost_4 b n (x1 + r1) (x2 + (1 : Int32)) σ2)))
def f_X3_planCost (b : Nat) (σ : Wd) : Option (Int32 × Wd) := (f_X3_planCost_4 b FU (0 : Int32) (0 : Int32) σ)
set_option maxRecDepth 20000 in
set_option maxHeartbeats 1000000 in
theorem b_X3_planCost_4 {K : Kt} {b : Nat}  (hO : Ok K cX3_planCost RX3 3 rm_X3_planCost) (hR : Rt K (some .int)) (hb : isM b)  : ∀ (n : Nat) (x1 : Int32) (x2 : Int32) (σ : Wd) , Cm K 3 (0, 0) (f_X3_planCost_4 b n x1 x2 σ) σ 4 [(0, .ref (K.G.A b)), (1, .int x1), (2, .int x2)] [] := by
  intro n
  induction n with
  | zero => intro x1 x2 σ ; exact r_none
  | succ n ih =>
    intro x1 x2 σ 
    refine r_iload_n (i := 2) hO rfl rfl dX3_planCost_4 ?_
    refine r_aload_n (i := 0) hO rfl rfl dX3_planCost_5 ?_
    refine gX3_21 hO hb dX3_planCost_6 ?_
    refine r_icmp_ge (tgt := 32) hO dX3_planCost_9 (by decide) ?_ ?_
    · refine r_iload_n (i := 1) hO rfl rfl dX3_planCost_32 ?_
      exact r_iret hO hR dX3_planCost_33
    · refine r_iload_n (i := 1) hO rfl rfl dX3_planCost_12 ?_
      refine r_aload_n (i := 0) hO rfl rfl dX3_planCost_13 ?_
      refine r_iload_n (i := 2) hO rfl rfl dX3_planCost_14 ?_
      refine r_aload_n (i := 0) hO rfl rfl dX3_planCost_15 ?_
      refine gX3_46 hO hb dX3_planCost_16 ?_
      refine r_iload_n (i := 2) hO rfl rfl dX3_planCost_19 ?_
      refine r_iald hO (sM_7 hb) dX3_planCost_20 ?_
      refine k_X3_costOf hO hb a_128 rfl ⟨rfl, rfl, Nat.le_refl _, Nat.le_refl _⟩ dX3_planCost_21 ?_
      intro r1 σ2
      refine r_iadd hO dX3_planCost_24 ?_
      refine r_istore_n (i := 1) hO rfl rfl rfl dX3_planCost_25 ?_
      refine r_iinc hO rfl ci_1 rfl rfl dX3_planCost_26 ?_
      refine r_goto (tgt := 4) hO dX3_planCost_29 (by decide) ?_
      exact r_jmp (ih (x1 + r1) (x2 + (1 : Int32)) σ2) (lsub_c rfl (lsub_c rfl (lsub_c rfl lsub_n)))
set_option maxRecDepth 20000 in
set_option maxHeartbeats 1000000 in
theorem b_X3_planCost {K : Kt} {b : Nat} (hO : Ok K cX3_planCost RX3 3 rm_X3_planCost) (hR : Rt K (some .int)) (hb : isM b)  (σ : Wd) : Cm K 3 (0, 0) (f_X3_planCost b σ) σ 0 [(0, .ref (K.G.A b))] [] := by
  refine r_iconst hO ci_0 dX3_planCost_0 ?_
  refine r_istore_n (i := 1) hO rfl rfl rfl dX3_planCost_1 ?_
  refine r_iconst hO ci_0 dX3_planCost_2 ?_
  refine r_istore_n (i := 2) hO rfl rfl rfl dX3_planCost_3 ?_
  exact r_jmp (b_X3_planCost_4 hO hR hb FU (0 : Int32) (0 : Int32) σ) (lsub_c rfl (lsub_c rfl (lsub_c rfl lsub_n)))
theorem c_X3_planCost {l : Launch} {G : Gh} {b : Nat} (hb : isM b)  (σ : Wd) : Con l G yX3_planCost cX3_planCost 3 (some .int) 2 50 [.ref (G.A b)] σ (f_X3_planCost b σ) := Con.of (plainFor_of_name (by decide)) rfl (Nat.le_of_ble_eq_true rfl) (fun K hl hG hO hR => by subst hl; subst hG; exact b_X3_planCost hO hR hb  σ)
theorem cal_X3_planCost : CalV yX3_planCost cX3_planCost 3 (some .int) 0 := ⟨a_129, a_130, a_131, a_6, by decide, by decide, by decide +kernel⟩
theorem k_X3_planCost {K : Kt} {nL : Nat} {cs : Nat × Nat} {σ : Wd} {pc : Nat} {lv : List (Nat × Value)} {st : List Value} {cc : ByteArray} {own : String} {rm : Room} {index : Nat} {g : Int32 → Wd → Option (Int32 × Wd)} {b : Nat} (hO : Ok K cc own nL rm) (hb : isM b) (hl : Cond.methodLink own index yX3_planCost ∈ gtb) (hcat : Nat.ble ((st.map fun v => v.category).sum) 8 = true) (hR : RoomOk rm cs 2 50 3) (d : decode cc pc = .ok (.invokevirtual index, 3)) (kk : ∀ (r : Int32) (σ : Wd), Cm K nL cs (g r σ) σ (pc + 3) lv (.int r :: st)) : Cm K nL cs (bd (f_X3_planCost b σ) g) σ pc lv (.ref (K.G.A b) :: st) := r_cVi hO (c_X3_planCost hb  σ) cal_X3_planCost hl rfl (isM_lt hb) (ent_X3 hb) rfl rfl hcat hR d kk
/-! OrderSplit_Market.canBePlanned -/
def f_X3_canBePlanned_34 (b : Nat)  (s0 : Int32) (σ : Wd) : Option (Int32 × Wd) := gd (isb s0) (some (s0, σ))
def f_X3_canBePlanned_33 (b : Nat)   (σ : Wd) : Option (Int32 × Wd) := (f_X3_canBePlanned_34 b (0 : Int32) σ)
def f_X3_canBePlanned (b : Nat) (a1 : Int32) (a2 : Int32) (σ : Wd) : Option (Int32 × Wd) := bd (f_X3_canBeHad b a1 a2 σ) fun r1 σ2 => if r1 = 0 then (f_X3_canBePlanned_33 b σ2) else (bd (f_X3_planUnits b σ2) fun r3 σ4 => gd (inb a1 5) (if (σ4.1 b 0) < ((r3 - (σ4.1 (b + 7) (ix a1))) + a2) then (f_X3_canBePlanned_33 b σ4) else (f_X3_canBePlanned_34 b (1 : Int32) σ4)))
set_option maxRecDepth 20000 in
set_option maxHeartbeats 1000000 in
theorem b_X3_canBePlanned_34 {K : Kt} {b : Nat}  (hO : Ok K cX3_canBePlanned RX3 3 rm_X3_canBePlanned) (hR : Rt K (some .boolean)) (hb : isM b)  (s0 : Int32) (σ : Wd)  : Cm K 3 (0, 0) (f_X3_canBePlanned_34 b s0 σ) σ 34 [] [.int s0] := by
  exact r_zret hO hR dX3_canBePlanned_34
set_option maxRecDepth 20000 in
set_option maxHeartbeats 1000000 in
theorem b_X3_canBePlanned_33 {K : Kt} {b : Nat}  (hO : Ok K cX3_canBePlanned RX3 3 rm_X3_canBePlanned) (hR : Rt K (some .boolean)) (hb : isM b)   (σ : Wd)  : Cm K 3 (0, 0) (f_X3_canBePlanned_33 b  σ) σ 33 [] [] := by
  refine r_iconst hO ci_0 dX3_canBePlanned_33 ?_
  exact r_jmp (b_X3_canBePlanned_34 hO hR hb (0 : Int32) σ) lsub_n
set_option maxRecDepth 20000 in
set_option maxHeartbeats 1000000 in
theorem b_X3_canBePlanned {K : Kt} {b : Nat} (hO : Ok K cX3_canBePlanned RX3 3 rm_X3_canBePlanned) (hR : Rt K (some .boolean)) (hb : isM b) (a1 : Int32) (a2 : Int32) (σ : Wd) : Cm K 3 (0, 0) (f_X3_canBePlanned b a1 a2 σ) σ 0 [(0, .ref (K.G.A b)), (1, .int a1), (2, .int a2)] [] := by
  refine r_aload_n (i := 0) hO rfl rfl dX3_canBePlanned_0 ?_
  refine r_iload_n (i := 1) hO rfl rfl dX3_canBePlanned_1 ?_
  refine r_iload_n (i := 2) hO rfl rfl dX3_canBePlanned_2 ?_
  refine k_X3_canBeHad hO hb a_132 rfl ⟨rfl, rfl, Nat.le_refl _, Nat.le_refl _⟩ dX3_canBePlanned_3 ?_
  intro r1 σ2
  refine r_if_eq (tgt := 33) hO dX3_canBePlanned_6 (by decide) ?_ ?_
  · exact r_jmp (b_X3_canBePlanned_33 hO hR hb σ2) lsub_n
  · refine r_aload_n (i := 0) hO rfl rfl dX3_canBePlanned_9 ?_
    refine k_X3_planUnits hO hb a_133 rfl ⟨rfl, rfl, Nat.le_refl _, Nat.le_refl _⟩ dX3_canBePlanned_10 ?_
    intro r3 σ4
    refine r_aload_n (i := 0) hO rfl rfl dX3_canBePlanned_13 ?_
    refine gX3_46 hO hb dX3_canBePlanned_14 ?_
    refine r_iload_n (i := 1) hO rfl rfl dX3_canBePlanned_17 ?_
    refine r_iald hO (sM_7 hb) dX3_canBePlanned_18 ?_
    refine r_isub hO dX3_canBePlanned_19 ?_
    refine r_iload_n (i := 2) hO rfl rfl dX3_canBePlanned_20 ?_
    refine r_iadd hO dX3_canBePlanned_21 ?_
    refine r_aload_n (i := 0) hO rfl rfl dX3_canBePlanned_22 ?_
    refine gX3_9 hO hb dX3_canBePlanned_23 ?_
    refine r_icmp_gt (tgt := 33) hO dX3_canBePlanned_26 (by decide) ?_ ?_
    · exact r_jmp (b_X3_canBePlanned_33 hO hR hb σ4) lsub_n
    · refine r_iconst hO ci_1 dX3_canBePlanned_29 ?_
      refine r_goto (tgt := 34) hO dX3_canBePlanned_30 (by decide) ?_
      exact r_jmp (b_X3_canBePlanned_34 hO hR hb (1 : Int32) σ4) lsub_n
theorem c_X3_canBePlanned {l : Launch} {G : Gh} {b : Nat} (hb : isM b) (a1 : Int32) (a2 : Int32) (σ : Wd) : Con l G yX3_canBePlanned cX3_canBePlanned 3 (some .boolean) 3 68 [.ref (G.A b), .int a1, .int a2] σ (f_X3_canBePlanned b a1 a2 σ) := Con.of (plainFor_of_name (by decide)) rfl (Nat.le_of_ble_eq_true rfl) (fun K hl hG hO hR => by subst hl; subst hG; exact b_X3_canBePlanned hO hR hb a1 a2 σ)
theorem cal_X3_canBePlanned : CalV yX3_canBePlanned cX3_canBePlanned 3 (some .boolean) 2 := ⟨a_134, a_135, a_136, a_6, by decide, by decide, by decide +kernel⟩
theorem k_X3_canBePlanned {K : Kt} {nL : Nat} {cs : Nat × Nat} {σ : Wd} {pc : Nat} {lv : List (Nat × Value)} {st : List Value} {cc : ByteArray} {own : String} {rm : Room} {index : Nat} {g : Int32 → Wd → Option (Int32 × Wd)} {b : Nat} {a1 : Int32} {a2 : Int32} (hO : Ok K cc own nL rm) (hb : isM b) (hl : Cond.methodLink own index yX3_canBePlanned ∈ gtb) (hcat : Nat.ble ((st.map fun v => v.category).sum) 8 = true) (hR : RoomOk rm cs 3 68 3) (d : decode cc pc = .ok (.invokevirtual index, 3)) (kk : ∀ (r : Int32) (σ : Wd), Cm K nL cs (g r σ) σ (pc + 3) lv (.int r :: st)) : Cm K nL cs (bd (f_X3_canBePlanned b a1 a2 σ) g) σ pc lv (.int a2 :: .int a1 :: .ref (K.G.A b) :: st) := r_cVi hO (c_X3_canBePlanned hb a1 a2 σ) cal_X3_canBePlanned hl rfl (isM_lt hb) (ent_X3 hb) rfl rfl hcat hR d kk
/-! OrderSplit_Market.planStands -/
def f_X3_planStands_48 (b : Nat)  (s0 : Int32) (σ : Wd) : Option (Int32 × Wd) := gd (isb s0) (some (s0, σ))
def f_X3_planStands_2 (b : Nat)  : Nat → Int32 → Wd → Option (Int32 × Wd)
  | 0 => fun _ _ => none
  | n + 1 => fun x1 σ => if (σ.1 b 3) ≤ x1 then (bd (f_X3_planUnits b σ) fun r1 σ2 => if (σ2.1 b 0) < r1 then (f_X3_planStands_48 b (0 : Int32) σ2) else (f_X3_planStands_48 b (1 : Int32) σ2)) else (gd (inb x1 5) (bd (f_X3_depthOf b x1 σ) fun r3 σ4 => if (σ.1 (b + 7) (ix x1)) ≤ r3 then (f_X3_planStands_2 b n (x1 + (1 : Int32)) σ4) else (gd (isb (0 : Int32)) (some ((0 : Int32), σ4)))))
def f_X3_planStands (b : Nat) (σ : Wd) : Option (Int32 × Wd) := (f_X3_planStands_2 b FU (0 : Int32) σ)
set_option maxRecDepth 20000 in
set_option maxHeartbeats 1000000 in
theorem b_X3_planStands_48 {K : Kt} {b : Nat}  (hO : Ok K cX3_planStands RX3 2 rm_X3_planStands) (hR : Rt K (some .boolean)) (hb : isM b)  (s0 : Int32) (σ : Wd)  : Cm K 2 (0, 0) (f_X3_planStands_48 b s0 σ) σ 48 [] [.int s0] := by
  exact r_zret hO hR dX3_planStands_48
set_option maxRecDepth 20000 in
set_option maxHeartbeats 1000000 in
theorem b_X3_planStands_2 {K : Kt} {b : Nat}  (hO : Ok K cX3_planStands RX3 2 rm_X3_planStands) (hR : Rt K (some .boolean)) (hb : isM b)  : ∀ (n : Nat) (x1 : Int32) (σ : Wd) , Cm K 2 (0, 0) (f_X3_planStands_2 b n x1 σ) σ 2 [(0, .ref (K.G.A b)), (1, .int x1)] [] := by
  intro n
  induction n with
  | zero => intro x1 σ ; exact r_none
  | succ n ih =>
    intro x1 σ 
    refine r_iload_n (i := 1) hO rfl rfl dX3_planStands_2 ?_
    refine r_aload_n (i := 0) hO rfl rfl dX3_planStands_3 ?_
    refine gX3_21 hO hb dX3_planStands_4 ?_
    refine r_icmp_ge (tgt := 32) hO dX3_planStands_7 (by decide) ?_ ?_
    · refine r_aload_n (i := 0) hO rfl rfl dX3_planStands_32 ?_
      refine k_X3_planUnits hO hb a_133 rfl ⟨rfl, rfl, Nat.le_refl _, Nat.le_refl _⟩ dX3_planStands_33 ?_
      intro r1 σ2
      refine r_aload_n (i := 0) hO rfl rfl dX3_planStands_36 ?_
      refine gX3_9 hO hb dX3_planStands_37 ?_
      refine r_icmp_gt (tgt := 47) hO dX3_planStands_40 (by decide) ?_ ?_
      · refine r_iconst hO ci_0 dX3_planStands_47 ?_
        exact r_jmp (b_X3_planStands_48 hO hR hb (0 : Int32) σ2) lsub_n
      · refine r_iconst hO ci_1 dX3_planStands_43 ?_
        refine r_goto (tgt := 48) hO dX3_planStands_44 (by decide) ?_
        exact r_jmp (b_X3_planStands_48 hO hR hb (1 : Int32) σ2) lsub_n
    · refine r_aload_n (i := 0) hO rfl rfl dX3_planStands_10 ?_
      refine gX3_46 hO hb dX3_planStands_11 ?_
      refine r_iload_n (i := 1) hO rfl rfl dX3_planStands_14 ?_
      refine r_iald hO (sM_7 hb) dX3_planStands_15 ?_
      refine r_aload_n (i := 0) hO rfl rfl dX3_planStands_16 ?_
      refine r_iload_n (i := 1) hO rfl rfl dX3_planStands_17 ?_
      refine k_X3_depthOf hO hb a_118 rfl ⟨rfl, rfl, Nat.le_refl _, Nat.le_refl _⟩ dX3_planStands_18 ?_
      intro r3 σ4
      refine r_icmp_le (tgt := 26) hO dX3_planStands_21 (by decide) ?_ ?_
      · refine r_iinc hO rfl ci_1 rfl rfl dX3_planStands_26 ?_
        refine r_goto (tgt := 2) hO dX3_planStands_29 (by decide) ?_
        exact r_jmp (ih (x1 + (1 : Int32)) σ4) (lsub_c rfl (lsub_c rfl lsub_n))
      · refine r_iconst hO ci_0 dX3_planStands_24 ?_
        exact r_zret hO hR dX3_planStands_25
set_option maxRecDepth 20000 in
set_option maxHeartbeats 1000000 in
theorem b_X3_planStands {K : Kt} {b : Nat} (hO : Ok K cX3_planStands RX3 2 rm_X3_planStands) (hR : Rt K (some .boolean)) (hb : isM b)  (σ : Wd) : Cm K 2 (0, 0) (f_X3_planStands b σ) σ 0 [(0, .ref (K.G.A b))] [] := by
  refine r_iconst hO ci_0 dX3_planStands_0 ?_
  refine r_istore_n (i := 1) hO rfl rfl rfl dX3_planStands_1 ?_
  exact r_jmp (b_X3_planStands_2 hO hR hb FU (0 : Int32) σ) (lsub_c rfl (lsub_c rfl lsub_n))
theorem c_X3_planStands {l : Launch} {G : Gh} {b : Nat} (hb : isM b)  (σ : Wd) : Con l G yX3_planStands cX3_planStands 2 (some .boolean) 2 46 [.ref (G.A b)] σ (f_X3_planStands b σ) := Con.of (plainFor_of_name (by decide)) rfl (Nat.le_of_ble_eq_true rfl) (fun K hl hG hO hR => by subst hl; subst hG; exact b_X3_planStands hO hR hb  σ)
theorem cal_X3_planStands : CalV yX3_planStands cX3_planStands 2 (some .boolean) 0 := ⟨a_137, a_138, a_139, a_6, by decide, by decide, by decide +kernel⟩
theorem k_X3_planStands {K : Kt} {nL : Nat} {cs : Nat × Nat} {σ : Wd} {pc : Nat} {lv : List (Nat × Value)} {st : List Value} {cc : ByteArray} {own : String} {rm : Room} {index : Nat} {g : Int32 → Wd → Option (Int32 × Wd)} {b : Nat} (hO : Ok K cc own nL rm) (hb : isM b) (hl : Cond.methodLink own index yX3_planStands ∈ gtb) (hcat : Nat.ble ((st.map fun v => v.category).sum) 8 = true) (hR : RoomOk rm cs 2 46 2) (d : decode cc pc = .ok (.invokevirtual index, 3)) (kk : ∀ (r : Int32) (σ : Wd), Cm K nL cs (g r σ) σ (pc + 3) lv (.int r :: st)) : Cm K nL cs (bd (f_X3_planStands b σ) g) σ pc lv (.ref (K.G.A b) :: st) := r_cVi hO (c_X3_planStands hb  σ) cal_X3_planStands hl rfl (isM_lt hb) (ent_X3 hb) rfl rfl hcat hR d kk
/-! OrderSplit_Market.leastCommonMultiple -/
def f_X3_leastCommonMultiple_8   : Nat → Int32 → Int32 → Int32 → Wd → Option (Int32 × Wd)
  | 0 => fun _ _ _ _ => none
  | n + 1 => fun x0 x1 x2 σ => if x1 ≤ x2 then (some (x0 * x1, σ)) else (gd (!decide (x1 = 0)) (if ((x0 * x2) % x1) = 0 then (some (x0 * x2, σ)) else (f_X3_leastCommonMultiple_8 n x0 x1 (x2 + (1 : Int32)) σ)))
def f_X3_leastCommonMultiple (a0 : Int32) (a1 : Int32) (σ : Wd) : Option (Int32 × Wd) := if 0 < a1 then (f_X3_leastCommonMultiple_8 FU a0 a1 (1 : Int32) σ) else (some (a0, σ))
set_option maxRecDepth 20000 in
set_option maxHeartbeats 1000000 in
theorem b_X3_leastCommonMultiple_8 {K : Kt}   (hO : Ok K cX3_leastCommonMultiple RX3 3 rm_X3_leastCommonMultiple) (hR : Rt K (some .int))   : ∀ (n : Nat) (x0 : Int32) (x1 : Int32) (x2 : Int32) (σ : Wd) , Cm K 3 (0, 0) (f_X3_leastCommonMultiple_8  n x0 x1 x2 σ) σ 8 [(0, .int x0), (1, .int x1), (2, .int x2)] [] := by
  intro n
  induction n with
  | zero => intro x0 x1 x2 σ ; exact r_none
  | succ n ih =>
    intro x0 x1 x2 σ 
    refine r_iload_n (i := 2) hO rfl rfl dX3_leastCommonMultiple_8 ?_
    refine r_iload_n (i := 1) hO rfl rfl dX3_leastCommonMultiple_9 ?_
    refine r_icmp_ge (tgt := 31) hO dX3_leastCommonMultiple_10 (by decide) ?_ ?_
    · refine r_iload_n (i := 0) hO rfl rfl dX3_leastCommonMultiple_31 ?_
      refine r_iload_n (i := 1) hO rfl rfl dX3_leastCommonMultiple_32 ?_
      refine r_imul hO dX3_leastCommonMultiple_33 ?_
      exact r_iret hO hR dX3_leastCommonMultiple_34
    · refine r_iload_n (i := 0) hO rfl rfl dX3_leastCommonMultiple_13 ?_
      refine r_iload_n (i := 2) hO rfl rfl dX3_leastCommonMultiple_14 ?_
      refine r_imul hO dX3_leastCommonMultiple_15 ?_
      refine r_iload_n (i := 1) hO rfl rfl dX3_leastCommonMultiple_16 ?_
      refine r_irem hO dX3_leastCommonMultiple_17 ?_
      refine r_if_ne (tgt := 25) hO dX3_leastCommonMultiple_18 (by decide) ?_ ?_
      · refine r_iload_n (i := 0) hO rfl rfl dX3_leastCommonMultiple_21 ?_
        refine r_iload_n (i := 2) hO rfl rfl dX3_leastCommonMultiple_22 ?_
        refine r_imul hO dX3_leastCommonMultiple_23 ?_
        exact r_iret hO hR dX3_leastCommonMultiple_24
      · refine r_iinc hO rfl ci_1 rfl rfl dX3_leastCommonMultiple_25 ?_
        refine r_goto (tgt := 8) hO dX3_leastCommonMultiple_28 (by decide) ?_
        exact r_jmp (ih x0 x1 (x2 + (1 : Int32)) σ) (lsub_c rfl (lsub_c rfl (lsub_c rfl lsub_n)))
set_option maxRecDepth 20000 in
set_option maxHeartbeats 1000000 in
theorem b_X3_leastCommonMultiple {K : Kt}  (hO : Ok K cX3_leastCommonMultiple RX3 3 rm_X3_leastCommonMultiple) (hR : Rt K (some .int))  (a0 : Int32) (a1 : Int32) (σ : Wd) : Cm K 3 (0, 0) (f_X3_leastCommonMultiple a0 a1 σ) σ 0 [(0, .int a0), (1, .int a1)] [] := by
  refine r_iload_n (i := 1) hO rfl rfl dX3_leastCommonMultiple_0 ?_
  refine r_if_gt (tgt := 6) hO dX3_leastCommonMultiple_1 (by decide) ?_ ?_
  · refine r_iconst hO ci_1 dX3_leastCommonMultiple_6 ?_
    refine r_istore_n (i := 2) hO rfl rfl rfl dX3_leastCommonMultiple_7 ?_
    exact r_jmp (b_X3_leastCommonMultiple_8 hO hR FU a0 a1 (1 : Int32) σ) (lsub_c rfl (lsub_c rfl (lsub_c rfl lsub_n)))
  · refine r_iload_n (i := 0) hO rfl rfl dX3_leastCommonMultiple_4 ?_
    exact r_iret hO hR dX3_leastCommonMultiple_5
theorem c_X3_leastCommonMultiple {l : Launch} {G : Gh}   (a0 : Int32) (a1 : Int32) (σ : Wd) : Con l G yX3_leastCommonMultiple cX3_leastCommonMultiple 3 (some .int) 0 0 [.int a0, .int a1] σ (f_X3_leastCommonMultiple a0 a1 σ) := Con.of (plainFor_of_name (by decide)) rfl (Nat.le_of_ble_eq_true rfl) (fun K hl hG hO hR => by subst hl; subst hG; exact b_X3_leastCommonMultiple hO hR  a0 a1 σ)
theorem cal_X3_leastCommonMultiple : CalS yX3_leastCommonMultiple cX3_leastCommonMultiple 3 (some .int) 2 := ⟨a_140, a_141, a_6, by decide, by decide, by decide +kernel⟩
theorem k_X3_leastCommonMultiple {K : Kt} {nL : Nat} {cs : Nat × Nat} {σ : Wd} {pc : Nat} {lv : List (Nat × Value)} {st : List Value} {cc : ByteArray} {own : String} {rm : Room} {index : Nat} {g : Int32 → Wd → Option (Int32 × Wd)} {a0 : Int32} {a1 : Int32} (hO : Ok K cc own nL rm)  (hl : Cond.methodLink own index yX3_leastCommonMultiple ∈ gtb) (hcat : Nat.ble ((st.map fun v => v.category).sum) 8 = true) (hR : RoomOk rm cs 0 0 3) (d : decode cc pc = .ok (.invokestatic index, 3)) (kk : ∀ (r : Int32) (σ : Wd), Cm K nL cs (g r σ) σ (pc + 3) lv (.int r :: st)) : Cm K nL cs (bd (f_X3_leastCommonMultiple a0 a1 σ) g) σ pc lv (.int a1 :: .int a0 :: st) := r_cSi hO (c_X3_leastCommonMultiple  a0 a1 σ) cal_X3_leastCommonMultiple hl rfl rfl hcat hR d kk
/-! OrderSplit_Market.moveCost -/
def f_X3_moveCost_47 (b : Nat)   (σ : Wd) : Option (Int32 × Wd) := some ((0 : Int32), σ)
def f_X3_moveCost (b : Nat) (a1 : Int32) (a2 : Int32) (σ : Wd) : Option (Int32 × Wd) := if a1 = a2 then (some ((0 : Int32), σ)) else (bd (f_X3_lotOf b a1 σ) fun r1 σ2 => bd (f_X3_lotOf b a2 σ2) fun r3 σ4 => bd (f_X3_leastCommonMultiple r1 r3 σ4) fun r5 σ6 => gd (inb a1 5) (if (σ6.1 (b + 7) (ix a1)) < r5 then (f_X3_moveCost_47 b σ6) else (gd (inb a2 5) (bd (f_X3_depthOf b a2 σ6) fun r7 σ8 => if ((σ6.1 (b + 7) (ix a2)) + r5) ≤ r7 then (gd (inb a1 5) (bd (f_X3_costOf b a1 ((σ8.1 (b + 7) (ix a1)) - r5) σ8) fun r9 σ10 => gd (inb a1 5) (bd (f_X3_costOf b a1 (σ10.1 (b + 7) (ix a1)) σ10) fun r11 σ12 => gd (inb a2 5) (bd (f_X3_costOf b a2 ((σ12.1 (b + 7) (ix a2)) + r5) σ12) fun r13 σ14 => gd (inb a2 5) (bd (f_X3_costOf b a2 (σ14.1 (b + 7) (ix a2)) σ14) fun r15 σ16 => some (((r9 - r11) + r13) - r15, σ16)))))) else (f_X3_moveCost_47 b σ8)))))
set_option maxRecDepth 20000 in
set_option maxHeartbeats 1000000 in
theorem b_X3_moveCost_47 {K : Kt} {b : Nat}  (hO : Ok K cX3_moveCost RX3 4 rm_X3_moveCost) (hR : Rt K (some .int)) (hb : isM b)   (σ : Wd)  : Cm K 4 (0, 0) (f_X3_moveCost_47 b  σ) σ 47 [] [] := by
  refine r_iconst hO ci_0 dX3_moveCost_47 ?_
  exact r_iret hO hR dX3_moveCost_48
set_option maxRecDepth 20000 in
set_option maxHeartbeats 1000000 in
theorem b_X3_moveCost {K : Kt} {b : Nat} (hO : Ok K cX3_moveCost RX3 4 rm_X3_moveCost) (hR : Rt K (some .int)) (hb : isM b) (a1 : Int32) (a2 : Int32) (σ : Wd) : Cm K 4 (0, 0) (f_X3_moveCost b a1 a2 σ) σ 0 [(0, .ref (K.G.A b)), (1, .int a1), (2, .int a2)] [] := by
  refine r_iload_n (i := 1) hO rfl rfl dX3_moveCost_0 ?_
  refine r_iload_n (i := 2) hO rfl rfl dX3_moveCost_1 ?_
  refine r_icmp_ne (tgt := 7) hO dX3_moveCost_2 (by decide) ?_ ?_
  · refine r_iconst hO ci_0 dX3_moveCost_5 ?_
    exact r_iret hO hR dX3_moveCost_6
  · refine r_aload_n (i := 0) hO rfl rfl dX3_moveCost_7 ?_
    refine r_iload_n (i := 1) hO rfl rfl dX3_moveCost_8 ?_
    refine k_X3_lotOf hO hb a_31 rfl ⟨rfl, rfl, Nat.le_refl _, Nat.le_refl _⟩ dX3_moveCost_9 ?_
    intro r1 σ2
    refine r_aload_n (i := 0) hO rfl rfl dX3_moveCost_12 ?_
    refine r_iload_n (i := 2) hO rfl rfl dX3_moveCost_13 ?_
    refine k_X3_lotOf hO hb a_31 rfl ⟨rfl, rfl, Nat.le_refl _, Nat.le_refl _⟩ dX3_moveCost_14 ?_
    intro r3 σ4
    refine k_X3_leastCommonMultiple hO a_142 rfl ⟨rfl, rfl, Nat.le_refl _, Nat.le_refl _⟩ dX3_moveCost_17 ?_
    intro r5 σ6
    refine r_istore_n (i := 3) hO rfl rfl rfl dX3_moveCost_20 ?_
    refine r_aload_n (i := 0) hO rfl rfl dX3_moveCost_21 ?_
    refine gX3_46 hO hb dX3_moveCost_22 ?_
    refine r_iload_n (i := 1) hO rfl rfl dX3_moveCost_25 ?_
    refine r_iald hO (sM_7 hb) dX3_moveCost_26 ?_
    refine r_iload_n (i := 3) hO rfl rfl dX3_moveCost_27 ?_
    refine r_icmp_lt (tgt := 47) hO dX3_moveCost_28 (by decide) ?_ ?_
    · exact r_jmp (b_X3_moveCost_47 hO hR hb σ6) lsub_n
    · refine r_aload_n (i := 0) hO rfl rfl dX3_moveCost_31 ?_
      refine gX3_46 hO hb dX3_moveCost_32 ?_
      refine r_iload_n (i := 2) hO rfl rfl dX3_moveCost_35 ?_
      refine r_iald hO (sM_7 hb) dX3_moveCost_36 ?_
      refine r_iload_n (i := 3) hO rfl rfl dX3_moveCost_37 ?_
      refine r_iadd hO dX3_moveCost_38 ?_
      refine r_aload_n (i := 0) hO rfl rfl dX3_moveCost_39 ?_
      refine r_iload_n (i := 2) hO rfl rfl dX3_moveCost_40 ?_
      refine k_X3_depthOf hO hb a_118 rfl ⟨rfl, rfl, Nat.le_refl _, Nat.le_refl _⟩ dX3_moveCost_41 ?_
      intro r7 σ8
      refine r_icmp_le (tgt := 49) hO dX3_moveCost_44 (by decide) ?_ ?_
      · refine r_aload_n (i := 0) hO rfl rfl dX3_moveCost_49 ?_
        refine r_iload_n (i := 1) hO rfl rfl dX3_moveCost_50 ?_
        refine r_aload_n (i := 0) hO rfl rfl dX3_moveCost_51 ?_
        refine gX3_46 hO hb dX3_moveCost_52 ?_
        refine r_iload_n (i := 1) hO rfl rfl dX3_moveCost_55 ?_
        refine r_iald hO (sM_7 hb) dX3_moveCost_56 ?_
        refine r_iload_n (i := 3) hO rfl rfl dX3_moveCost_57 ?_
        refine r_isub hO dX3_moveCost_58 ?_
        refine k_X3_costOf hO hb a_128 rfl ⟨rfl, rfl, Nat.le_refl _, Nat.le_refl _⟩ dX3_moveCost_59 ?_
        intro r9 σ10
        refine r_aload_n (i := 0) hO rfl rfl dX3_moveCost_62 ?_
        refine r_iload_n (i := 1) hO rfl rfl dX3_moveCost_63 ?_
        refine r_aload_n (i := 0) hO rfl rfl dX3_moveCost_64 ?_
        refine gX3_46 hO hb dX3_moveCost_65 ?_
        refine r_iload_n (i := 1) hO rfl rfl dX3_moveCost_68 ?_
        refine r_iald hO (sM_7 hb) dX3_moveCost_69 ?_
        refine k_X3_costOf hO hb a_128 rfl ⟨rfl, rfl, Nat.le_refl _, Nat.le_refl _⟩ dX3_moveCost_70 ?_
        intro r11 σ12
        refine r_isub hO dX3_moveCost_73 ?_
        refine r_aload_n (i := 0) hO rfl rfl dX3_moveCost_74 ?_
        refine r_iload_n (i := 2) hO rfl rfl dX3_moveCost_75 ?_
        refine r_aload_n (i := 0) hO rfl rfl dX3_moveCost_76 ?_
        refine gX3_46 hO hb dX3_moveCost_77 ?_
        refine r_iload_n (i := 2) hO rfl rfl dX3_moveCost_80 ?_
        refine r_iald hO (sM_7 hb) dX3_moveCost_81 ?_
        refine r_iload_n (i := 3) hO rfl rfl dX3_moveCost_82 ?_
        refine r_iadd hO dX3_moveCost_83 ?_
        refine k_X3_costOf hO hb a_128 rfl ⟨rfl, rfl, Nat.le_refl _, Nat.le_refl _⟩ dX3_moveCost_84 ?_
        intro r13 σ14
        refine r_iadd hO dX3_moveCost_87 ?_
        refine r_aload_n (i := 0) hO rfl rfl dX3_moveCost_88 ?_
        refine r_iload_n (i := 2) hO rfl rfl dX3_moveCost_89 ?_
        refine r_aload_n (i := 0) hO rfl rfl dX3_moveCost_90 ?_
        refine gX3_46 hO hb dX3_moveCost_91 ?_
        refine r_iload_n (i := 2) hO rfl rfl dX3_moveCost_94 ?_
        refine r_iald hO (sM_7 hb) dX3_moveCost_95 ?_
        refine k_X3_costOf hO hb a_128 rfl ⟨rfl, rfl, Nat.le_refl _, Nat.le_refl _⟩ dX3_moveCost_96 ?_
        intro r15 σ16
        refine r_isub hO dX3_moveCost_99 ?_
        exact r_iret hO hR dX3_moveCost_100
      · exact r_jmp (b_X3_moveCost_47 hO hR hb σ8) lsub_n
theorem c_X3_moveCost {l : Launch} {G : Gh} {b : Nat} (hb : isM b) (a1 : Int32) (a2 : Int32) (σ : Wd) : Con l G yX3_moveCost cX3_moveCost 4 (some .int) 2 50 [.ref (G.A b), .int a1, .int a2] σ (f_X3_moveCost b a1 a2 σ) := Con.of (plainFor_of_name (by decide)) rfl (Nat.le_of_ble_eq_true rfl) (fun K hl hG hO hR => by subst hl; subst hG; exact b_X3_moveCost hO hR hb a1 a2 σ)
theorem cal_X3_moveCost : CalV yX3_moveCost cX3_moveCost 4 (some .int) 2 := ⟨a_143, a_144, a_145, a_6, by decide, by decide, by decide +kernel⟩
theorem k_X3_moveCost {K : Kt} {nL : Nat} {cs : Nat × Nat} {σ : Wd} {pc : Nat} {lv : List (Nat × Value)} {st : List Value} {cc : ByteArray} {own : String} {rm : Room} {index : Nat} {g : Int32 → Wd → Option (Int32 × Wd)} {b : Nat} {a1 : Int32} {a2 : Int32} (hO : Ok K cc own nL rm) (hb : isM b) (hl : Cond.methodLink own index yX3_moveCost ∈ gtb) (hcat : Nat.ble ((st.map fun v => v.category).sum) 8 = true) (hR : RoomOk rm cs 2 50 4) (d : decode cc pc = .ok (.invokevirtual index, 3)) (kk : ∀ (r : Int32) (σ : Wd), Cm K nL cs (g r σ) σ (pc + 3) lv (.int r :: st)) : Cm K nL cs (bd (f_X3_moveCost b a1 a2 σ) g) σ pc lv (.int a2 :: .int a1 :: .ref (K.G.A b) :: st) := r_cVi hO (c_X3_moveCost hb a1 a2 σ) cal_X3_moveCost hl rfl (isM_lt hb) (ent_X3 hb) rfl rfl hcat hR d kk
/-! java/lang/Math.floorDiv -/
def f_J9_floorDiv_7cf53_21   (x2 : Int32) (σ : Wd) : Option (Int32 × Wd) := some (x2, σ)
def f_J9_floorDiv_7cf53 (a0 : Int32) (a1 : Int32) (σ : Wd) : Option (Int32 × Wd) := gd (!decide (a1 = 0)) (if 0 ≤ (a0 ^^^ a1) then (f_J9_floorDiv_7cf53_21 (a0 / a1) σ) else (if ((a0 / a1) * a1) = a0 then (f_J9_floorDiv_7cf53_21 (a0 / a1) σ) else (some ((a0 / a1) - (1 : Int32), σ))))
set_option maxRecDepth 20000 in
set_option maxHeartbeats 1000000 in
theorem b_J9_floorDiv_7cf53_21 {K : Kt}   (hO : Ok K cJ9_floorDiv_7cf53 RJ9 3 rm_J9_floorDiv_7cf53) (hR : Rt K (some .int))   (x2 : Int32) (σ : Wd)  : Cm K 3 (0, 0) (f_J9_floorDiv_7cf53_21  x2 σ) σ 21 [(2, .int x2)] [] := by
  refine r_iload_n (i := 2) hO rfl rfl dJ9_floorDiv_7cf53_21 ?_
  exact r_iret hO hR dJ9_floorDiv_7cf53_22
set_option maxRecDepth 20000 in
set_option maxHeartbeats 1000000 in
theorem b_J9_floorDiv_7cf53 {K : Kt}  (hO : Ok K cJ9_floorDiv_7cf53 RJ9 3 rm_J9_floorDiv_7cf53) (hR : Rt K (some .int))  (a0 : Int32) (a1 : Int32) (σ : Wd) : Cm K 3 (0, 0) (f_J9_floorDiv_7cf53 a0 a1 σ) σ 0 [(0, .int a0), (1, .int a1)] [] := by
  refine r_iload_n (i := 0) hO rfl rfl dJ9_floorDiv_7cf53_0 ?_
  refine r_iload_n (i := 1) hO rfl rfl dJ9_floorDiv_7cf53_1 ?_
  refine r_idiv hO dJ9_floorDiv_7cf53_2 ?_
  refine r_istore_n (i := 2) hO rfl rfl rfl dJ9_floorDiv_7cf53_3 ?_
  refine r_iload_n (i := 0) hO rfl rfl dJ9_floorDiv_7cf53_4 ?_
  refine r_iload_n (i := 1) hO rfl rfl dJ9_floorDiv_7cf53_5 ?_
  refine r_ixor hO dJ9_floorDiv_7cf53_6 ?_
  refine r_if_ge (tgt := 21) hO dJ9_floorDiv_7cf53_7 (by decide) ?_ ?_
  · exact r_jmp (b_J9_floorDiv_7cf53_21 hO hR (a0 / a1) σ) (lsub_c rfl lsub_n)
  · refine r_iload_n (i := 2) hO rfl rfl dJ9_floorDiv_7cf53_10 ?_
    refine r_iload_n (i := 1) hO rfl rfl dJ9_floorDiv_7cf53_11 ?_
    refine r_imul hO dJ9_floorDiv_7cf53_12 ?_
    refine r_iload_n (i := 0) hO rfl rfl dJ9_floorDiv_7cf53_13 ?_
    refine r_icmp_eq (tgt := 21) hO dJ9_floorDiv_7cf53_14 (by decide) ?_ ?_
    · exact r_jmp (b_J9_floorDiv_7cf53_21 hO hR (a0 / a1) σ) (lsub_c rfl lsub_n)
    · refine r_iload_n (i := 2) hO rfl rfl dJ9_floorDiv_7cf53_17 ?_
      refine r_iconst hO ci_1 dJ9_floorDiv_7cf53_18 ?_
      refine r_isub hO dJ9_floorDiv_7cf53_19 ?_
      exact r_iret hO hR dJ9_floorDiv_7cf53_20
theorem c_J9_floorDiv_7cf53 {l : Launch} {G : Gh}   (a0 : Int32) (a1 : Int32) (σ : Wd) : Con l G yJ9_floorDiv_7cf53 cJ9_floorDiv_7cf53 3 (some .int) 0 0 [.int a0, .int a1] σ (f_J9_floorDiv_7cf53 a0 a1 σ) := Con.of (by decide +kernel) rfl (Nat.le_of_ble_eq_true rfl) (fun K hl hG hO hR => by subst hl; subst hG; exact b_J9_floorDiv_7cf53 hO hR  a0 a1 σ)
theorem cal_J9_floorDiv_7cf53 : CalS yJ9_floorDiv_7cf53 cJ9_floorDiv_7cf53 3 (some .int) 2 := ⟨a_186, a_187, a_188, by decide, by decide, by decide +kernel⟩
theorem k_J9_floorDiv_7cf53 {K : Kt} {nL : Nat} {cs : Nat × Nat} {σ : Wd} {pc : Nat} {lv : List (Nat × Value)} {st : List Value} {cc : ByteArray} {own : String} {rm : Room} {index : Nat} {g : Int32 → Wd → Option (Int32 × Wd)} {a0 : Int32} {a1 : Int32} (hO : Ok K cc own nL rm)  (hl : Cond.methodLink own index yJ9_floorDiv_7cf53 ∈ gtb) (hcat : Nat.ble ((st.map fun v => v.category).sum) 8 = true) (hR : RoomOk rm cs 0 0 3) (d : decode cc pc = .ok (.invokestatic index, 3)) (kk : ∀ (r : Int32) (σ : Wd), Cm K nL cs (g r σ) σ (pc + 3) lv (.int r :: st)) : Cm K nL cs (bd (f_J9_floorDiv_7cf53 a0 a1 σ) g) σ pc lv (.int a1 :: .int a0 :: st) := r_cSi hO (c_J9_floorDiv_7cf53  a0 a1 σ) cal_J9_floorDiv_7cf53 hl rfl rfl hcat hR d kk

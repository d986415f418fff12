/-! OrderSplit_Tape.put -/
def f_X5_put_46    (σ : Wd) : Option (Int32 × Wd) := some (0, σ)
def f_X5_put_3   : Nat → Int32 → Int32 → Wd → Option (Int32 × Wd)
  | 0 => fun _ _ _ => none
  | n + 1 => fun x1 x2 σ => if x2 < 0 then (f_X5_put_46 σ) else (if (900 : Int32) ≤ (σ.1 1 0) then (f_X5_put_46 σ) else (gd (inb (σ.1 1 0) 900) (nmW (wi σ 2 (ix (σ.1 1 0)) (vp_nar .byte ((x1 >>> (x2 &&& 31)).toInt8.toInt32))) fun σ1 => nmW (wi σ1 1 0 ((σ1.1 1 0) + (1 : Int32))) fun σ2 => (f_X5_put_3 n x1 (x2 + (-8 : Int32)) σ2))))
def f_X5_put (a1 : Int32) (σ : Wd) : Option (Int32 × Wd) := (f_X5_put_3 FU a1 (24 : Int32) σ)
set_option maxRecDepth 20000 in
set_option maxHeartbeats 1000000 in
theorem b_X5_put_46 {K : Kt}   (hO : Ok K cX5_put RX5 3 rm_X5_put) (hR : Rt K none)    (σ : Wd)  : Cm K 3 (0, 0) (f_X5_put_46   σ) σ 46 [] [] := by
  exact r_vret hO hR dX5_put_46
set_option maxRecDepth 20000 in
set_option maxHeartbeats 1000000 in
theorem b_X5_put_3 {K : Kt}   (hO : Ok K cX5_put RX5 3 rm_X5_put) (hR : Rt K none)   : ∀ (n : Nat) (x1 : Int32) (x2 : Int32) (σ : Wd) , Cm K 3 (0, 0) (f_X5_put_3  n x1 x2 σ) σ 3 [(0, .ref (K.G.A 1)), (1, .int x1), (2, .int x2)] [] := by
  intro n
  induction n with
  | zero => intro x1 x2 σ ; exact r_none
  | succ n ih =>
    intro x1 x2 σ 
    refine r_iload_n (i := 2) hO rfl rfl dX5_put_3 ?_
    refine r_if_lt (tgt := 46) hO dX5_put_4 (by decide) ?_ ?_
    · exact r_jmp (b_X5_put_46 hO hR σ) lsub_n
    · refine r_aload_n (i := 0) hO rfl rfl dX5_put_7 ?_
      refine gX5_9 hO dX5_put_8 ?_
      refine r_sipush hO si_900 dX5_put_11 ?_
      refine r_icmp_ge (tgt := 46) hO dX5_put_14 (by decide) ?_ ?_
      · exact r_jmp (b_X5_put_46 hO hR σ) lsub_n
      · refine r_aload_n (i := 0) hO rfl rfl dX5_put_17 ?_
        refine gX5_21 hO dX5_put_18 ?_
        refine r_aload_n (i := 0) hO rfl rfl dX5_put_21 ?_
        refine gX5_9 hO dX5_put_22 ?_
        refine r_iload_n (i := 1) hO rfl rfl dX5_put_25 ?_
        refine r_iload_n (i := 2) hO rfl rfl dX5_put_26 ?_
        refine r_ishr hO dX5_put_27 ?_
        refine r_i2b hO dX5_put_28 ?_
        refine r_bast hO s_2 dX5_put_29 ?_
        refine r_nmW fun σ1 => ?_
        refine r_aload_n (i := 0) hO rfl rfl dX5_put_30 ?_
        refine r_dup hO rfl dX5_put_31 ?_
        refine gX5_9 hO dX5_put_32 ?_
        refine r_iconst hO ci_1 dX5_put_35 ?_
        refine r_iadd hO dX5_put_36 ?_
        refine pX5_9 hO dX5_put_37 ?_
        refine r_nmW fun σ2 => ?_
        refine r_iinc hO rfl ci_m8 rfl rfl dX5_put_40 ?_
        refine r_goto (tgt := 3) hO dX5_put_43 (by decide) ?_
        exact r_jmp (ih x1 (x2 + (-8 : Int32)) σ2) (lsub_c rfl (lsub_c rfl (lsub_c rfl lsub_n)))
set_option maxRecDepth 20000 in
set_option maxHeartbeats 1000000 in
theorem b_X5_put {K : Kt}  (hO : Ok K cX5_put RX5 3 rm_X5_put) (hR : Rt K none)  (a1 : Int32) (σ : Wd) : Cm K 3 (0, 0) (f_X5_put a1 σ) σ 0 [(0, .ref (K.G.A 1)), (1, .int a1)] [] := by
  refine r_bipush hO bi_24 dX5_put_0 ?_
  refine r_istore_n (i := 2) hO rfl rfl rfl dX5_put_2 ?_
  exact r_jmp (b_X5_put_3 hO hR FU a1 (24 : Int32) σ) (lsub_c rfl (lsub_c rfl (lsub_c rfl lsub_n)))
theorem c_X5_put {l : Launch} {G : Gh}   (a1 : Int32) (σ : Wd) : Con l G yX5_put cX5_put 3 none 0 0 [.ref (G.A 1), .int a1] σ (f_X5_put a1 σ) := Con.of (plainFor_of_name (by decide)) rfl (Nat.le_of_ble_eq_true rfl) (fun K hl hG hO hR => by subst hl; subst hG; exact b_X5_put hO hR  a1 σ)
theorem cal_X5_put : CalV yX5_put cX5_put 3 none 1 := ⟨a_214, a_215, a_216, a_217, by decide, by decide, by decide +kernel⟩
theorem k_X5_put {K : Kt} {nL : Nat} {cs : Nat × Nat} {σ : Wd} {pc : Nat} {lv : List (Nat × Value)} {st : List Value} {cc : ByteArray} {own : String} {rm : Room} {index : Nat} {g : Int32 → Wd → Option (Int32 × Wd)} {a1 : Int32} (hO : Ok K cc own nL rm)  (hl : Cond.methodLink own index yX5_put ∈ gtb) (hcat : Nat.ble ((st.map fun v => v.category).sum) 8 = true) (hR : RoomOk rm cs 0 0 3) (d : decode cc pc = .ok (.invokevirtual index, 3)) (kk : ∀ (r : Int32) (σ : Wd), Cm K nL cs (g r σ) σ (pc + 3) lv st) : Cm K nL cs (bd (f_X5_put a1 σ) g) σ pc lv (.int a1 :: .ref (K.G.A 1) :: st) := r_cVv hO (c_X5_put  a1 σ) cal_X5_put hl rfl (by decide) ent_X5 rfl rfl hcat hR d kk
/-! OrderSplit_Tape.sortOf -/
def f_X5_sortOf_49   (s0 : Int32) (σ : Wd) : Option (Int32 × Wd) := some (s0, σ)
def f_X5_sortOf_28   (x0 : Int32) (σ : Wd) : Option (Int32 × Wd) := if x0 = (59 : Int32) then (f_X5_sortOf_49 (3 : Int32) σ) else (if x0 = (45 : Int32) then (f_X5_sortOf_49 (4 : Int32) σ) else (f_X5_sortOf_49 (5 : Int32) σ))
def f_X5_sortOf_14   (x0 : Int32) (σ : Wd) : Option (Int32 × Wd) := if x0 < (48 : Int32) then (f_X5_sortOf_28 x0 σ) else (if (57 : Int32) < x0 then (f_X5_sortOf_28 x0 σ) else (some ((2 : Int32), σ)))
def f_X5_sortOf (a0 : Int32) (σ : Wd) : Option (Int32 × Wd) := if a0 < (97 : Int32) then (f_X5_sortOf_14 a0 σ) else (if (122 : Int32) < a0 then (f_X5_sortOf_14 a0 σ) else (some ((1 : Int32), σ)))
set_option maxRecDepth 20000 in
set_option maxHeartbeats 1000000 in
theorem b_X5_sortOf_49 {K : Kt}   (hO : Ok K cX5_sortOf RX5 1 rm_X5_sortOf) (hR : Rt K (some .int))   (s0 : Int32) (σ : Wd)  : Cm K 1 (0, 0) (f_X5_sortOf_49  s0 σ) σ 49 [] [.int s0] := by
  exact r_iret hO hR dX5_sortOf_49
set_option maxRecDepth 20000 in
set_option maxHeartbeats 1000000 in
theorem b_X5_sortOf_28 {K : Kt}   (hO : Ok K cX5_sortOf RX5 1 rm_X5_sortOf) (hR : Rt K (some .int))   (x0 : Int32) (σ : Wd)  : Cm K 1 (0, 0) (f_X5_sortOf_28  x0 σ) σ 28 [(0, .int x0)] [] := by
  refine r_iload_n (i := 0) hO rfl rfl dX5_sortOf_28 ?_
  refine r_bipush hO bi_59 dX5_sortOf_29 ?_
  refine r_icmp_ne (tgt := 38) hO dX5_sortOf_31 (by decide) ?_ ?_
  · refine r_iconst hO ci_3 dX5_sortOf_34 ?_
    refine r_goto (tgt := 49) hO dX5_sortOf_35 (by decide) ?_
    exact r_jmp (b_X5_sortOf_49 hO hR (3 : Int32) σ) lsub_n
  · refine r_iload_n (i := 0) hO rfl rfl dX5_sortOf_38 ?_
    refine r_bipush hO bi_45 dX5_sortOf_39 ?_
    refine r_icmp_ne (tgt := 48) hO dX5_sortOf_41 (by decide) ?_ ?_
    · refine r_iconst hO ci_4 dX5_sortOf_44 ?_
      refine r_goto (tgt := 49) hO dX5_sortOf_45 (by decide) ?_
      exact r_jmp (b_X5_sortOf_49 hO hR (4 : Int32) σ) lsub_n
    · refine r_iconst hO ci_5 dX5_sortOf_48 ?_
      exact r_jmp (b_X5_sortOf_49 hO hR (5 : Int32) σ) lsub_n
set_option maxRecDepth 20000 in
set_option maxHeartbeats 1000000 in
theorem b_X5_sortOf_14 {K : Kt}   (hO : Ok K cX5_sortOf RX5 1 rm_X5_sortOf) (hR : Rt K (some .int))   (x0 : Int32) (σ : Wd)  : Cm K 1 (0, 0) (f_X5_sortOf_14  x0 σ) σ 14 [(0, .int x0)] [] := by
  refine r_iload_n (i := 0) hO rfl rfl dX5_sortOf_14 ?_
  refine r_bipush hO bi_48 dX5_sortOf_15 ?_
  refine r_icmp_lt (tgt := 28) hO dX5_sortOf_17 (by decide) ?_ ?_
  · exact r_jmp (b_X5_sortOf_28 hO hR x0 σ) (lsub_c rfl lsub_n)
  · refine r_iload_n (i := 0) hO rfl rfl dX5_sortOf_20 ?_
    refine r_bipush hO bi_57 dX5_sortOf_21 ?_
    refine r_icmp_gt (tgt := 28) hO dX5_sortOf_23 (by decide) ?_ ?_
    · exact r_jmp (b_X5_sortOf_28 hO hR x0 σ) (lsub_c rfl lsub_n)
    · refine r_iconst hO ci_2 dX5_sortOf_26 ?_
      exact r_iret hO hR dX5_sortOf_27
set_option maxRecDepth 20000 in
set_option maxHeartbeats 1000000 in
theorem b_X5_sortOf {K : Kt}  (hO : Ok K cX5_sortOf RX5 1 rm_X5_sortOf) (hR : Rt K (some .int))  (a0 : Int32) (σ : Wd) : Cm K 1 (0, 0) (f_X5_sortOf a0 σ) σ 0 [(0, .int a0)] [] := by
  refine r_iload_n (i := 0) hO rfl rfl dX5_sortOf_0 ?_
  refine r_bipush hO bi_97 dX5_sortOf_1 ?_
  refine r_icmp_lt (tgt := 14) hO dX5_sortOf_3 (by decide) ?_ ?_
  · exact r_jmp (b_X5_sortOf_14 hO hR a0 σ) (lsub_c rfl lsub_n)
  · refine r_iload_n (i := 0) hO rfl rfl dX5_sortOf_6 ?_
    refine r_bipush hO bi_122 dX5_sortOf_7 ?_
    refine r_icmp_gt (tgt := 14) hO dX5_sortOf_9 (by decide) ?_ ?_
    · exact r_jmp (b_X5_sortOf_14 hO hR a0 σ) (lsub_c rfl lsub_n)
    · refine r_iconst hO ci_1 dX5_sortOf_12 ?_
      exact r_iret hO hR dX5_sortOf_13
theorem c_X5_sortOf {l : Launch} {G : Gh}   (a0 : Int32) (σ : Wd) : Con l G yX5_sortOf cX5_sortOf 1 (some .int) 0 0 [.int a0] σ (f_X5_sortOf a0 σ) := Con.of (plainFor_of_name (by decide)) rfl (Nat.le_of_ble_eq_true rfl) (fun K hl hG hO hR => by subst hl; subst hG; exact b_X5_sortOf hO hR  a0 σ)
theorem cal_X5_sortOf : CalS yX5_sortOf cX5_sortOf 1 (some .int) 1 := ⟨a_218, a_219, a_217, by decide, by decide, by decide +kernel⟩
theorem k_X5_sortOf {K : Kt} {nL : Nat} {cs : Nat × Nat} {σ : Wd} {pc : Nat} {lv : List (Nat × Value)} {st : List Value} {cc : ByteArray} {own : String} {rm : Room} {index : Nat} {g : Int32 → Wd → Option (Int32 × Wd)} {a0 : Int32} (hO : Ok K cc own nL rm)  (hl : Cond.methodLink own index yX5_sortOf ∈ gtb) (hcat : Nat.ble ((st.map fun v => v.category).sum) 8 = true) (hR : RoomOk rm cs 0 0 1) (d : decode cc pc = .ok (.invokestatic index, 3)) (kk : ∀ (r : Int32) (σ : Wd), Cm K nL cs (g r σ) σ (pc + 3) lv (.int r :: st)) : Cm K nL cs (bd (f_X5_sortOf a0 σ) g) σ pc lv (.int a0 :: st) := r_cSi hO (c_X5_sortOf  a0 σ) cal_X5_sortOf hl rfl rfl hcat hR d kk
/-! OrderSplit_Tape.stepOver -/
def f_X5_stepOver_108  (k34 : Int32 → Int32 → Int32 → Int32 → Int32 → Wd → Option (Int32 × Wd)) (x1 : Int32) (x2 : Int32) (x3 : Int32) (x4 : Int32) (x5 : Int32) (σ : Wd) : Option (Int32 × Wd) := nmW (wi σ 1 6 ((σ.1 1 6) + (1 : Int32))) fun σ1 => (k34 x1 x2 x3 x4 x5 σ1)
def f_X5_stepOver_139    (σ : Wd) : Option (Int32 × Wd) := some (0, σ)
def f_X5_stepOver_121   (x3 : Int32) (σ : Wd) : Option (Int32 × Wd) := if ((σ.1 1 6) - (σ.1 1 8)) ≤ x3 then (f_X5_stepOver_139 σ) else (nmW (wi σ 1 7 (5 : Int32)) fun σ1 => (f_X5_stepOver_139 σ1))
def f_X5_stepOver_34   : Nat → Int32 → Int32 → Int32 → Int32 → Int32 → Wd → Option (Int32 × Wd)
  | 0 => fun _ _ _ _ _ _ => none
  | n + 1 => fun x1 x2 x3 x4 x5 σ => if (σ.1 1 5) ≤ (σ.1 1 6) then (f_X5_stepOver_121 x3 σ) else (gd (inb (σ.1 1 6) 900) (if (σ.1 2 (ix (σ.1 1 6))) < x1 then (f_X5_stepOver_121 x3 σ) else (gd (inb (σ.1 1 6) 900) (if x2 < (σ.1 2 (ix (σ.1 1 6))) then (f_X5_stepOver_121 x3 σ) else (if x3 ≤ ((σ.1 1 6) - (σ.1 1 8)) then (f_X5_stepOver_108 (f_X5_stepOver_34 n) x1 x2 x3 x4 x5 σ) else (gd (inb (σ.1 1 6) 900) (nmW (wi σ 1 9 ((((σ.1 1 9) * x4) + (σ.1 2 (ix (σ.1 1 6)))) - x5)) fun σ1 => (f_X5_stepOver_108 (f_X5_stepOver_34 n) x1 x2 x3 x4 x5 σ1))))))))
def f_X5_stepOver_32   (x1 : Int32) (x2 : Int32) (x3 : Int32) (x4 : Int32) (s0 : Int32) (σ : Wd) : Option (Int32 × Wd) := (f_X5_stepOver_34 FU x1 x2 x3 x4 s0 σ)
def f_X5_stepOver_15   (x1 : Int32) (x2 : Int32) (x3 : Int32) (s0 : Int32) (σ : Wd) : Option (Int32 × Wd) := if (σ.1 1 7) = (2 : Int32) then (f_X5_stepOver_32 x1 x2 x3 s0 x1 σ) else (f_X5_stepOver_32 x1 x2 x3 s0 (x1 - (1 : Int32)) σ)
def f_X5_stepOver (a1 : Int32) (a2 : Int32) (a3 : Int32) (σ : Wd) : Option (Int32 × Wd) := if (σ.1 1 7) = (2 : Int32) then (f_X5_stepOver_15 a1 a2 a3 (10 : Int32) σ) else (f_X5_stepOver_15 a1 a2 a3 (27 : Int32) σ)
set_option maxRecDepth 20000 in
set_option maxHeartbeats 1000000 in
theorem b_X5_stepOver_108 {K : Kt}  {k34 : Int32 → Int32 → Int32 → Int32 → Int32 → Wd → Option (Int32 × Wd)} (hO : Ok K cX5_stepOver RX5 6 rm_X5_stepOver) (hR : Rt K none)   (hk34 : ∀ (x1 : Int32) (x2 : Int32) (x3 : Int32) (x4 : Int32) (x5 : Int32) (σ : Wd), Cm K 6 (0, 0) (k34 x1 x2 x3 x4 x5 σ) σ 34 [(0, .ref (K.G.A 1)), (1, .int x1), (2, .int x2), (3, .int x3), (4, .int x4), (5, .int x5)] []) (x1 : Int32) (x2 : Int32) (x3 : Int32) (x4 : Int32) (x5 : Int32) (σ : Wd)  : Cm K 6 (0, 0) (f_X5_stepOver_108 k34 x1 x2 x3 x4 x5 σ) σ 108 [(0, .ref (K.G.A 1)), (1, .int x1), (2, .int x2), (3, .int x3), (4, .int x4), (5, .int x5)] [] := by
  refine r_aload_n (i := 0) hO rfl rfl dX5_stepOver_108 ?_
  refine r_dup hO rfl dX5_stepOver_109 ?_
  refine gX5_32 hO dX5_stepOver_110 ?_
  refine r_iconst hO ci_1 dX5_stepOver_113 ?_
  refine r_iadd hO dX5_stepOver_114 ?_
  refine pX5_32 hO dX5_stepOver_115 ?_
  refine r_nmW fun σ1 => ?_
  refine r_goto (tgt := 34) hO dX5_stepOver_118 (by decide) ?_
  exact r_jmp (hk34 x1 x2 x3 x4 x5 σ1) (lsub_c rfl (lsub_c rfl (lsub_c rfl (lsub_c rfl (lsub_c rfl (lsub_c rfl lsub_n))))))
set_option maxRecDepth 20000 in
set_option maxHeartbeats 1000000 in
theorem b_X5_stepOver_139 {K : Kt}   (hO : Ok K cX5_stepOver RX5 6 rm_X5_stepOver) (hR : Rt K none)    (σ : Wd)  : Cm K 6 (0, 0) (f_X5_stepOver_139   σ) σ 139 [] [] := by
  exact r_vret hO hR dX5_stepOver_139
set_option maxRecDepth 20000 in
set_option maxHeartbeats 1000000 in
theorem b_X5_stepOver_121 {K : Kt}   (hO : Ok K cX5_stepOver RX5 6 rm_X5_stepOver) (hR : Rt K none)   (x3 : Int32) (σ : Wd)  : Cm K 6 (0, 0) (f_X5_stepOver_121  x3 σ) σ 121 [(0, .ref (K.G.A 1)), (3, .int x3)] [] := by
  refine r_aload_n (i := 0) hO rfl rfl dX5_stepOver_121 ?_
  refine gX5_32 hO dX5_stepOver_122 ?_
  refine r_aload_n (i := 0) hO rfl rfl dX5_stepOver_125 ?_
  refine gX5_38 hO dX5_stepOver_126 ?_
  refine r_isub hO dX5_stepOver_129 ?_
  refine r_iload_n (i := 3) hO rfl rfl dX5_stepOver_130 ?_
  refine r_icmp_le (tgt := 139) hO dX5_stepOver_131 (by decide) ?_ ?_
  · exact r_jmp (b_X5_stepOver_139 hO hR σ) lsub_n
  · refine r_aload_n (i := 0) hO rfl rfl dX5_stepOver_134 ?_
    refine r_iconst hO ci_5 dX5_stepOver_135 ?_
    refine pX5_35 hO dX5_stepOver_136 ?_
    refine r_nmW fun σ1 => ?_
    exact r_jmp (b_X5_stepOver_139 hO hR σ1) lsub_n
set_option maxRecDepth 20000 in
set_option maxHeartbeats 1000000 in
theorem b_X5_stepOver_34 {K : Kt}   (hO : Ok K cX5_stepOver RX5 6 rm_X5_stepOver) (hR : Rt K none)   : ∀ (n : Nat) (x1 : Int32) (x2 : Int32) (x3 : Int32) (x4 : Int32) (x5 : Int32) (σ : Wd) , Cm K 6 (0, 0) (f_X5_stepOver_34  n x1 x2 x3 x4 x5 σ) σ 34 [(0, .ref (K.G.A 1)), (1, .int x1), (2, .int x2), (3, .int x3), (4, .int x4), (5, .int x5)] [] := by
  intro n
  induction n with
  | zero => intro x1 x2 x3 x4 x5 σ ; exact r_none
  | succ n ih =>
    intro x1 x2 x3 x4 x5 σ 
    refine r_aload_n (i := 0) hO rfl rfl dX5_stepOver_34 ?_
    refine gX5_32 hO dX5_stepOver_35 ?_
    refine r_aload_n (i := 0) hO rfl rfl dX5_stepOver_38 ?_
    refine gX5_29 hO dX5_stepOver_39 ?_
    refine r_icmp_ge (tgt := 121) hO dX5_stepOver_42 (by decide) ?_ ?_
    · exact r_jmp (b_X5_stepOver_121 hO hR x3 σ) (lsub_c rfl (lsub_c rfl lsub_n))
    · refine r_aload_n (i := 0) hO rfl rfl dX5_stepOver_45 ?_
      refine gX5_21 hO dX5_stepOver_46 ?_
      refine r_aload_n (i := 0) hO rfl rfl dX5_stepOver_49 ?_
      refine gX5_32 hO dX5_stepOver_50 ?_
      refine r_bald hO s_2 dX5_stepOver_53 ?_
      refine r_iload_n (i := 1) hO rfl rfl dX5_stepOver_54 ?_
      refine r_icmp_lt (tgt := 121) hO dX5_stepOver_55 (by decide) ?_ ?_
      · exact r_jmp (b_X5_stepOver_121 hO hR x3 σ) (lsub_c rfl (lsub_c rfl lsub_n))
      · refine r_aload_n (i := 0) hO rfl rfl dX5_stepOver_58 ?_
        refine gX5_21 hO dX5_stepOver_59 ?_
        refine r_aload_n (i := 0) hO rfl rfl dX5_stepOver_62 ?_
        refine gX5_32 hO dX5_stepOver_63 ?_
        refine r_bald hO s_2 dX5_stepOver_66 ?_
        refine r_iload_n (i := 2) hO rfl rfl dX5_stepOver_67 ?_
        refine r_icmp_gt (tgt := 121) hO dX5_stepOver_68 (by decide) ?_ ?_
        · exact r_jmp (b_X5_stepOver_121 hO hR x3 σ) (lsub_c rfl (lsub_c rfl lsub_n))
        · refine r_aload_n (i := 0) hO rfl rfl dX5_stepOver_71 ?_
          refine gX5_32 hO dX5_stepOver_72 ?_
          refine r_aload_n (i := 0) hO rfl rfl dX5_stepOver_75 ?_
          refine gX5_38 hO dX5_stepOver_76 ?_
          refine r_isub hO dX5_stepOver_79 ?_
          refine r_iload_n (i := 3) hO rfl rfl dX5_stepOver_80 ?_
          refine r_icmp_ge (tgt := 108) hO dX5_stepOver_81 (by decide) ?_ ?_
          · exact r_jmp (b_X5_stepOver_108 hO hR ih x1 x2 x3 x4 x5 σ) (lsub_c rfl (lsub_c rfl (lsub_c rfl (lsub_c rfl (lsub_c rfl (lsub_c rfl lsub_n))))))
          · refine r_aload_n (i := 0) hO rfl rfl dX5_stepOver_84 ?_
            refine r_aload_n (i := 0) hO rfl rfl dX5_stepOver_85 ?_
            refine gX5_41 hO dX5_stepOver_86 ?_
            refine r_iload hO (d := dX5_stepOver_89) rfl ?_
            refine r_imul hO dX5_stepOver_91 ?_
            refine r_aload_n (i := 0) hO rfl rfl dX5_stepOver_92 ?_
            refine gX5_21 hO dX5_stepOver_93 ?_
            refine r_aload_n (i := 0) hO rfl rfl dX5_stepOver_96 ?_
            refine gX5_32 hO dX5_stepOver_97 ?_
            refine r_bald hO s_2 dX5_stepOver_100 ?_
            refine r_iadd hO dX5_stepOver_101 ?_
            refine r_iload hO (d := dX5_stepOver_102) rfl ?_
            refine r_isub hO dX5_stepOver_104 ?_
            refine pX5_41 hO dX5_stepOver_105 ?_
            refine r_nmW fun σ1 => ?_
            exact r_jmp (b_X5_stepOver_108 hO hR ih x1 x2 x3 x4 x5 σ1) (lsub_c rfl (lsub_c rfl (lsub_c rfl (lsub_c rfl (lsub_c rfl (lsub_c rfl lsub_n))))))
set_option maxRecDepth 20000 in
set_option maxHeartbeats 1000000 in
theorem b_X5_stepOver_32 {K : Kt}   (hO : Ok K cX5_stepOver RX5 6 rm_X5_stepOver) (hR : Rt K none)   (x1 : Int32) (x2 : Int32) (x3 : Int32) (x4 : Int32) (s0 : Int32) (σ : Wd)  : Cm K 6 (0, 0) (f_X5_stepOver_32  x1 x2 x3 x4 s0 σ) σ 32 [(0, .ref (K.G.A 1)), (1, .int x1), (2, .int x2), (3, .int x3), (4, .int x4)] [.int s0] := by
  refine r_istore hO rfl rfl dX5_stepOver_32 ?_
  exact r_jmp (b_X5_stepOver_34 hO hR FU x1 x2 x3 x4 s0 σ) (lsub_c rfl (lsub_c rfl (lsub_c rfl (lsub_c rfl (lsub_c rfl (lsub_c rfl lsub_n))))))
set_option maxRecDepth 20000 in
set_option maxHeartbeats 1000000 in
theorem b_X5_stepOver_15 {K : Kt}   (hO : Ok K cX5_stepOver RX5 6 rm_X5_stepOver) (hR : Rt K none)   (x1 : Int32) (x2 : Int32) (x3 : Int32) (s0 : Int32) (σ : Wd)  : Cm K 6 (0, 0) (f_X5_stepOver_15  x1 x2 x3 s0 σ) σ 15 [(0, .ref (K.G.A 1)), (1, .int x1), (2, .int x2), (3, .int x3)] [.int s0] := by
  refine r_istore hO rfl rfl dX5_stepOver_15 ?_
  refine r_aload_n (i := 0) hO rfl rfl dX5_stepOver_17 ?_
  refine gX5_35 hO dX5_stepOver_18 ?_
  refine r_iconst hO ci_2 dX5_stepOver_21 ?_
  refine r_icmp_ne (tgt := 29) hO dX5_stepOver_22 (by decide) ?_ ?_
  · refine r_iload_n (i := 1) hO rfl rfl dX5_stepOver_25 ?_
    refine r_goto (tgt := 32) hO dX5_stepOver_26 (by decide) ?_
    exact r_jmp (b_X5_stepOver_32 hO hR x1 x2 x3 s0 x1 σ) (lsub_c rfl (lsub_c rfl (lsub_c rfl (lsub_c rfl (lsub_c rfl lsub_n)))))
  · refine r_iload_n (i := 1) hO rfl rfl dX5_stepOver_29 ?_
    refine r_iconst hO ci_1 dX5_stepOver_30 ?_
    refine r_isub hO dX5_stepOver_31 ?_
    exact r_jmp (b_X5_stepOver_32 hO hR x1 x2 x3 s0 (x1 - (1 : Int32)) σ) (lsub_c rfl (lsub_c rfl (lsub_c rfl (lsub_c rfl (lsub_c rfl lsub_n)))))
set_option maxRecDepth 20000 in
set_option maxHeartbeats 1000000 in
theorem b_X5_stepOver {K : Kt}  (hO : Ok K cX5_stepOver RX5 6 rm_X5_stepOver) (hR : Rt K none)  (a1 : Int32) (a2 : Int32) (a3 : Int32) (σ : Wd) : Cm K 6 (0, 0) (f_X5_stepOver a1 a2 a3 σ) σ 0 [(0, .ref (K.G.A 1)), (1, .int a1), (2, .int a2), (3, .int a3)] [] := by
  refine r_aload_n (i := 0) hO rfl rfl dX5_stepOver_0 ?_
  refine gX5_35 hO dX5_stepOver_1 ?_
  refine r_iconst hO ci_2 dX5_stepOver_4 ?_
  refine r_icmp_ne (tgt := 13) hO dX5_stepOver_5 (by decide) ?_ ?_
  · refine r_bipush hO bi_10 dX5_stepOver_8 ?_
    refine r_goto (tgt := 15) hO dX5_stepOver_10 (by decide) ?_
    exact r_jmp (b_X5_stepOver_15 hO hR a1 a2 a3 (10 : Int32) σ) (lsub_c rfl (lsub_c rfl (lsub_c rfl (lsub_c rfl lsub_n))))
  · refine r_bipush hO bi_27 dX5_stepOver_13 ?_
    exact r_jmp (b_X5_stepOver_15 hO hR a1 a2 a3 (27 : Int32) σ) (lsub_c rfl (lsub_c rfl (lsub_c rfl (lsub_c rfl lsub_n))))
theorem c_X5_stepOver {l : Launch} {G : Gh}   (a1 : Int32) (a2 : Int32) (a3 : Int32) (σ : Wd) : Con l G yX5_stepOver cX5_stepOver 6 none 0 0 [.ref (G.A 1), .int a1, .int a2, .int a3] σ (f_X5_stepOver a1 a2 a3 σ) := Con.of (plainFor_of_name (by decide)) rfl (Nat.le_of_ble_eq_true rfl) (fun K hl hG hO hR => by subst hl; subst hG; exact b_X5_stepOver hO hR  a1 a2 a3 σ)
theorem cal_X5_stepOver : CalV yX5_stepOver cX5_stepOver 6 none 3 := ⟨a_220, a_221, a_222, a_217, by decide, by decide, by decide +kernel⟩
theorem k_X5_stepOver {K : Kt} {nL : Nat} {cs : Nat × Nat} {σ : Wd} {pc : Nat} {lv : List (Nat × Value)} {st : List Value} {cc : ByteArray} {own : String} {rm : Room} {index : Nat} {g : Int32 → Wd → Option (Int32 × Wd)} {a1 : Int32} {a2 : Int32} {a3 : Int32} (hO : Ok K cc own nL rm)  (hl : Cond.methodLink own index yX5_stepOver ∈ gtb) (hcat : Nat.ble ((st.map fun v => v.category).sum) 8 = true) (hR : RoomOk rm cs 0 0 6) (d : decode cc pc = .ok (.invokevirtual index, 3)) (kk : ∀ (r : Int32) (σ : Wd), Cm K nL cs (g r σ) σ (pc + 3) lv st) : Cm K nL cs (bd (f_X5_stepOver a1 a2 a3 σ) g) σ pc lv (.int a3 :: .int a2 :: .int a1 :: .ref (K.G.A 1) :: st) := r_cVv hO (c_X5_stepOver  a1 a2 a3 σ) cal_X5_stepOver hl rfl (by decide) ent_X5 rfl rfl hcat hR d kk
/-! OrderSplit_Tape.step -/
def f_X5_step_140    (σ : Wd) : Option (Int32 × Wd) := some (0, σ)
def f_X5_step_79   (s1 : Int32) (σ : Wd) : Option (Int32 × Wd) := nmW (wi σ 1 7 s1) fun σ1 => if (σ1.1 1 7) = (1 : Int32) then (bd (f_X5_stepOver (97 : Int32) (122 : Int32) (6 : Int32) σ1) fun _ σ2 => (f_X5_step_140 σ2)) else (if (σ1.1 1 7) = (2 : Int32) then (bd (f_X5_stepOver (48 : Int32) (57 : Int32) (3 : Int32) σ1) fun _ σ3 => (f_X5_step_140 σ3)) else (if (σ1.1 1 7) = 0 then (f_X5_step_140 σ1) else (nmW (wi σ1 1 6 ((σ1.1 1 6) + (1 : Int32))) fun σ4 => (f_X5_step_140 σ4))))
def f_X5_step_38    (σ : Wd) : Option (Int32 × Wd) := nmW (wi σ 1 8 (σ.1 1 6)) fun σ1 => nmW (wi σ1 1 9 (0 : Int32)) fun σ2 => if (σ2.1 1 5) ≤ (σ2.1 1 6) then (f_X5_step_79 (0 : Int32) σ2) else (gd (inb (σ2.1 1 6) 900) (bd (f_X5_sortOf (σ2.1 2 (ix (σ2.1 1 6))) σ2) fun r3 σ4 => (f_X5_step_79 r3 σ4)))
def f_X5_step_0   : Nat → Wd → Option (Int32 × Wd)
  | 0 => fun _ => none
  | n + 1 => fun  σ => if (σ.1 1 5) ≤ (σ.1 1 6) then (f_X5_step_38 σ) else (gd (inb (σ.1 1 6) 900) (if (σ.1 2 (ix (σ.1 1 6))) = (32 : Int32) then (nmW (wi σ 1 6 ((σ.1 1 6) + (1 : Int32))) fun σ1 => (f_X5_step_0 n σ1)) else (f_X5_step_38 σ)))
def f_X5_step  (σ : Wd) : Option (Int32 × Wd) := (f_X5_step_0 FU σ)
set_option maxRecDepth 20000 in
set_option maxHeartbeats 1000000 in
theorem b_X5_step_140 {K : Kt}   (hO : Ok K cX5_step RX5 1 rm_X5_step) (hR : Rt K none)    (σ : Wd)  : Cm K 1 (0, 0) (f_X5_step_140   σ) σ 140 [] [] := by
  exact r_vret hO hR dX5_step_140
set_option maxRecDepth 20000 in
set_option maxHeartbeats 1000000 in
theorem b_X5_step_79 {K : Kt}   (hO : Ok K cX5_step RX5 1 rm_X5_step) (hR : Rt K none)   (s1 : Int32) (σ : Wd)  : Cm K 1 (0, 0) (f_X5_step_79  s1 σ) σ 79 [(0, .ref (K.G.A 1))] [.int s1, .ref (K.G.A 1)] := by
  refine pX5_35 hO dX5_step_79 ?_
  refine r_nmW fun σ1 => ?_
  refine r_aload_n (i := 0) hO rfl rfl dX5_step_82 ?_
  refine gX5_35 hO dX5_step_83 ?_
  refine r_iconst hO ci_1 dX5_step_86 ?_
  refine r_icmp_ne (tgt := 103) hO dX5_step_87 (by decide) ?_ ?_
  · refine r_aload_n (i := 0) hO rfl rfl dX5_step_90 ?_
    refine r_bipush hO bi_97 dX5_step_91 ?_
    refine r_bipush hO bi_122 dX5_step_93 ?_
    refine r_bipush hO bi_6 dX5_step_95 ?_
    refine k_X5_stepOver hO a_224 rfl ⟨rfl, rfl, Nat.le_refl _, Nat.le_refl _⟩ dX5_step_97 ?_
    intro _ σ2
    refine r_goto (tgt := 140) hO dX5_step_100 (by decide) ?_
    exact r_jmp (b_X5_step_140 hO hR σ2) lsub_n
  · refine r_aload_n (i := 0) hO rfl rfl dX5_step_103 ?_
    refine gX5_35 hO dX5_step_104 ?_
    refine r_iconst hO ci_2 dX5_step_107 ?_
    refine r_icmp_ne (tgt := 123) hO dX5_step_108 (by decide) ?_ ?_
    · refine r_aload_n (i := 0) hO rfl rfl dX5_step_111 ?_
      refine r_bipush hO bi_48 dX5_step_112 ?_
      refine r_bipush hO bi_57 dX5_step_114 ?_
      refine r_iconst hO ci_3 dX5_step_116 ?_
      refine k_X5_stepOver hO a_224 rfl ⟨rfl, rfl, Nat.le_refl _, Nat.le_refl _⟩ dX5_step_117 ?_
      intro _ σ3
      refine r_goto (tgt := 140) hO dX5_step_120 (by decide) ?_
      exact r_jmp (b_X5_step_140 hO hR σ3) lsub_n
    · refine r_aload_n (i := 0) hO rfl rfl dX5_step_123 ?_
      refine gX5_35 hO dX5_step_124 ?_
      refine r_if_eq (tgt := 140) hO dX5_step_127 (by decide) ?_ ?_
      · exact r_jmp (b_X5_step_140 hO hR σ1) lsub_n
      · refine r_aload_n (i := 0) hO rfl rfl dX5_step_130 ?_
        refine r_dup hO rfl dX5_step_131 ?_
        refine gX5_32 hO dX5_step_132 ?_
        refine r_iconst hO ci_1 dX5_step_135 ?_
        refine r_iadd hO dX5_step_136 ?_
        refine pX5_32 hO dX5_step_137 ?_
        refine r_nmW fun σ4 => ?_
        exact r_jmp (b_X5_step_140 hO hR σ4) lsub_n
set_option maxRecDepth 20000 in
set_option maxHeartbeats 1000000 in
theorem b_X5_step_38 {K : Kt}   (hO : Ok K cX5_step RX5 1 rm_X5_step) (hR : Rt K none)    (σ : Wd)  : Cm K 1 (0, 0) (f_X5_step_38   σ) σ 38 [(0, .ref (K.G.A 1))] [] := by
  refine r_aload_n (i := 0) hO rfl rfl dX5_step_38 ?_
  refine r_aload_n (i := 0) hO rfl rfl dX5_step_39 ?_
  refine gX5_32 hO dX5_step_40 ?_
  refine pX5_38 hO dX5_step_43 ?_
  refine r_nmW fun σ1 => ?_
  refine r_aload_n (i := 0) hO rfl rfl dX5_step_46 ?_
  refine r_iconst hO ci_0 dX5_step_47 ?_
  refine pX5_41 hO dX5_step_48 ?_
  refine r_nmW fun σ2 => ?_
  refine r_aload_n (i := 0) hO rfl rfl dX5_step_51 ?_
  refine r_aload_n (i := 0) hO rfl rfl dX5_step_52 ?_
  refine gX5_32 hO dX5_step_53 ?_
  refine r_aload_n (i := 0) hO rfl rfl dX5_step_56 ?_
  refine gX5_29 hO dX5_step_57 ?_
  refine r_icmp_ge (tgt := 78) hO dX5_step_60 (by decide) ?_ ?_
  · refine r_iconst hO ci_0 dX5_step_78 ?_
    exact r_jmp (b_X5_step_79 hO hR (0 : Int32) σ2) (lsub_c rfl lsub_n)
  · refine r_aload_n (i := 0) hO rfl rfl dX5_step_63 ?_
    refine gX5_21 hO dX5_step_64 ?_
    refine r_aload_n (i := 0) hO rfl rfl dX5_step_67 ?_
    refine gX5_32 hO dX5_step_68 ?_
    refine r_bald hO s_2 dX5_step_71 ?_
    refine k_X5_sortOf hO a_223 rfl ⟨rfl, rfl, Nat.le_refl _, Nat.le_refl _⟩ dX5_step_72 ?_
    intro r3 σ4
    refine r_goto (tgt := 79) hO dX5_step_75 (by decide) ?_
    exact r_jmp (b_X5_step_79 hO hR r3 σ4) (lsub_c rfl lsub_n)
set_option maxRecDepth 20000 in
set_option maxHeartbeats 1000000 in
theorem b_X5_step_0 {K : Kt}   (hO : Ok K cX5_step RX5 1 rm_X5_step) (hR : Rt K none)   : ∀ (n : Nat)  (σ : Wd) , Cm K 1 (0, 0) (f_X5_step_0  n  σ) σ 0 [(0, .ref (K.G.A 1))] [] := by
  intro n
  induction n with
  | zero => intro  σ ; exact r_none
  | succ n ih =>
    intro  σ 
    refine r_aload_n (i := 0) hO rfl rfl dX5_step_0 ?_
    refine gX5_32 hO dX5_step_1 ?_
    refine r_aload_n (i := 0) hO rfl rfl dX5_step_4 ?_
    refine gX5_29 hO dX5_step_5 ?_
    refine r_icmp_ge (tgt := 38) hO dX5_step_8 (by decide) ?_ ?_
    · exact r_jmp (b_X5_step_38 hO hR σ) (lsub_c rfl lsub_n)
    · refine r_aload_n (i := 0) hO rfl rfl dX5_step_11 ?_
      refine gX5_21 hO dX5_step_12 ?_
      refine r_aload_n (i := 0) hO rfl rfl dX5_step_15 ?_
      refine gX5_32 hO dX5_step_16 ?_
      refine r_bald hO s_2 dX5_step_19 ?_
      refine r_bipush hO bi_32 dX5_step_20 ?_
      refine r_icmp_ne (tgt := 38) hO dX5_step_22 (by decide) ?_ ?_
      · refine r_aload_n (i := 0) hO rfl rfl dX5_step_25 ?_
        refine r_dup hO rfl dX5_step_26 ?_
        refine gX5_32 hO dX5_step_27 ?_
        refine r_iconst hO ci_1 dX5_step_30 ?_
        refine r_iadd hO dX5_step_31 ?_
        refine pX5_32 hO dX5_step_32 ?_
        refine r_nmW fun σ1 => ?_
        refine r_goto (tgt := 0) hO dX5_step_35 (by decide) ?_
        exact r_jmp (ih σ1) (lsub_c rfl lsub_n)
      · exact r_jmp (b_X5_step_38 hO hR σ) (lsub_c rfl lsub_n)
set_option maxRecDepth 20000 in
set_option maxHeartbeats 1000000 in
theorem b_X5_step {K : Kt}  (hO : Ok K cX5_step RX5 1 rm_X5_step) (hR : Rt K none)   (σ : Wd) : Cm K 1 (0, 0) (f_X5_step  σ) σ 0 [(0, .ref (K.G.A 1))] [] := by
  exact r_jmp (b_X5_step_0 hO hR FU σ) (lsub_c rfl lsub_n)
theorem c_X5_step {l : Launch} {G : Gh}    (σ : Wd) : Con l G yX5_step cX5_step 1 none 1 25 [.ref (G.A 1)] σ (f_X5_step  σ) := Con.of (plainFor_of_name (by decide)) rfl (Nat.le_of_ble_eq_true rfl) (fun K hl hG hO hR => by subst hl; subst hG; exact b_X5_step hO hR   σ)
theorem cal_X5_step : CalV yX5_step cX5_step 1 none 0 := ⟨a_225, a_226, a_227, a_217, by decide, by decide, by decide +kernel⟩
theorem k_X5_step {K : Kt} {nL : Nat} {cs : Nat × Nat} {σ : Wd} {pc : Nat} {lv : List (Nat × Value)} {st : List Value} {cc : ByteArray} {own : String} {rm : Room} {index : Nat} {g : Int32 → Wd → Option (Int32 × Wd)}  (hO : Ok K cc own nL rm)  (hl : Cond.methodLink own index yX5_step ∈ gtb) (hcat : Nat.ble ((st.map fun v => v.category).sum) 8 = true) (hR : RoomOk rm cs 1 25 1) (d : decode cc pc = .ok (.invokevirtual index, 3)) (kk : ∀ (r : Int32) (σ : Wd), Cm K nL cs (g r σ) σ (pc + 3) lv st) : Cm K nL cs (bd (f_X5_step  σ) g) σ pc lv (.ref (K.G.A 1) :: st) := r_cVv hO (c_X5_step   σ) cal_X5_step hl rfl (by decide) ent_X5 rfl rfl hcat hR d kk
/-! OrderSplit_Tape.isWord -/
def f_X5_isWord_24 (w1 : Nat)   (σ : Wd) : Option (Int32 × Wd) := gd (isb (0 : Int32)) (some ((0 : Int32), σ))
def f_X5_isWord_28 (w1 : Nat)  : Nat → Int32 → Wd → Option (Int32 × Wd)
  | 0 => fun _ _ => none
  | n + 1 => fun x2 σ => if (nI (txL.getD w1 0)) ≤ x2 then (gd (isb (1 : Int32)) (some ((1 : Int32), σ))) else (gd (inb ((σ.1 1 8) + x2) 900) (gd (inb x2 (txL.getD w1 0)) (if (σ.1 2 (ix ((σ.1 1 8) + x2))) = (tch w1 x2) then (f_X5_isWord_28 w1 n (x2 + (1 : Int32)) σ) else (gd (isb (0 : Int32)) (some ((0 : Int32), σ))))))
def f_X5_isWord (w1 : Nat) (σ : Wd) : Option (Int32 × Wd) := if (σ.1 1 7) = (1 : Int32) then (if (nI (txL.getD w1 0)) = ((σ.1 1 6) - (σ.1 1 8)) then (f_X5_isWord_28 w1 FU (0 : Int32) σ) else (f_X5_isWord_24 w1 σ)) else (f_X5_isWord_24 w1 σ)
set_option maxRecDepth 20000 in
set_option maxHeartbeats 1000000 in
theorem b_X5_isWord_24 {K : Kt} {w1 : Nat}  (hO : Ok K cX5_isWord RX5 3 rm_X5_isWord) (hR : Rt K (some .boolean)) (hw1 : Nat.blt w1 13 = true)   (σ : Wd)  : Cm K 3 (0, 0) (f_X5_isWord_24 w1  σ) σ 24 [] [] := by
  refine r_iconst hO ci_0 dX5_isWord_24 ?_
  exact r_zret hO hR dX5_isWord_25
set_option maxRecDepth 20000 in
set_option maxHeartbeats 1000000 in
theorem b_X5_isWord_28 {K : Kt} {w1 : Nat}  (hO : Ok K cX5_isWord RX5 3 rm_X5_isWord) (hR : Rt K (some .boolean)) (hw1 : Nat.blt w1 13 = true)  : ∀ (n : Nat) (x2 : Int32) (σ : Wd) , Cm K 3 (0, 0) (f_X5_isWord_28 w1 n x2 σ) σ 28 [(0, .ref (K.G.A 1)), (1, .ref (K.G.aK w1)), (2, .int x2)] [] := by
  intro n
  induction n with
  | zero => intro x2 σ ; exact r_none
  | succ n ih =>
    intro x2 σ 
    refine r_iload_n (i := 2) hO rfl rfl dX5_isWord_28 ?_
    refine r_aload_n (i := 1) hO rfl rfl dX5_isWord_29 ?_
    refine k_str_length hO hw1 a_228 rfl ⟨rfl, rfl, Nat.le_refl _, Nat.le_refl _⟩ dX5_isWord_30 ?_
    refine r_icmp_ge (tgt := 63) hO dX5_isWord_33 (by decide) ?_ ?_
    · refine r_iconst hO ci_1 dX5_isWord_63 ?_
      exact r_zret hO hR dX5_isWord_64
    · refine r_aload_n (i := 0) hO rfl rfl dX5_isWord_36 ?_
      refine gX5_21 hO dX5_isWord_37 ?_
      refine r_aload_n (i := 0) hO rfl rfl dX5_isWord_40 ?_
      refine gX5_38 hO dX5_isWord_41 ?_
      refine r_iload_n (i := 2) hO rfl rfl dX5_isWord_44 ?_
      refine r_iadd hO dX5_isWord_45 ?_
      refine r_bald hO s_2 dX5_isWord_46 ?_
      refine r_aload_n (i := 1) hO rfl rfl dX5_isWord_47 ?_
      refine r_iload_n (i := 2) hO rfl rfl dX5_isWord_48 ?_
      refine k_str_charAt hO hw1 a_229 rfl ⟨rfl, rfl, Nat.le_refl _, Nat.le_refl _⟩ dX5_isWord_49 ?_
      refine r_icmp_eq (tgt := 57) hO dX5_isWord_52 (by decide) ?_ ?_
      · refine r_iinc hO rfl ci_1 rfl rfl dX5_isWord_57 ?_
        refine r_goto (tgt := 28) hO dX5_isWord_60 (by decide) ?_
        exact r_jmp (ih (x2 + (1 : Int32)) σ) (lsub_c rfl (lsub_c rfl (lsub_c rfl lsub_n)))
      · refine r_iconst hO ci_0 dX5_isWord_55 ?_
        exact r_zret hO hR dX5_isWord_56
set_option maxRecDepth 20000 in
set_option maxHeartbeats 1000000 in
theorem b_X5_isWord {K : Kt} {w1 : Nat} (hO : Ok K cX5_isWord RX5 3 rm_X5_isWord) (hR : Rt K (some .boolean)) (hw1 : Nat.blt w1 13 = true)  (σ : Wd) : Cm K 3 (0, 0) (f_X5_isWord w1 σ) σ 0 [(0, .ref (K.G.A 1)), (1, .ref (K.G.aK w1))] [] := by
  refine r_aload_n (i := 0) hO rfl rfl dX5_isWord_0 ?_
  refine gX5_35 hO dX5_isWord_1 ?_
  refine r_iconst hO ci_1 dX5_isWord_4 ?_
  refine r_icmp_ne (tgt := 24) hO dX5_isWord_5 (by decide) ?_ ?_
  · refine r_aload_n (i := 1) hO rfl rfl dX5_isWord_8 ?_
    refine k_str_length hO hw1 a_228 rfl ⟨rfl, rfl, Nat.le_refl _, Nat.le_refl _⟩ dX5_isWord_9 ?_
    refine r_aload_n (i := 0) hO rfl rfl dX5_isWord_12 ?_
    refine gX5_32 hO dX5_isWord_13 ?_
    refine r_aload_n (i := 0) hO rfl rfl dX5_isWord_16 ?_
    refine gX5_38 hO dX5_isWord_17 ?_
    refine r_isub hO dX5_isWord_20 ?_
    refine r_icmp_eq (tgt := 26) hO dX5_isWord_21 (by decide) ?_ ?_
    · refine r_iconst hO ci_0 dX5_isWord_26 ?_
      refine r_istore_n (i := 2) hO rfl rfl rfl dX5_isWord_27 ?_
      exact r_jmp (b_X5_isWord_28 hO hR hw1 FU (0 : Int32) σ) (lsub_c rfl (lsub_c rfl (lsub_c rfl lsub_n)))
    · exact r_jmp (b_X5_isWord_24 hO hR hw1 σ) lsub_n
  · exact r_jmp (b_X5_isWord_24 hO hR hw1 σ) lsub_n
theorem c_X5_isWord {l : Launch} {G : Gh} {w1 : Nat} (hw1 : Nat.blt w1 13 = true)  (σ : Wd) : Con l G yX5_isWord cX5_isWord 3 (some .boolean) 5 106 [.ref (G.A 1), .ref (G.aK w1)] σ (f_X5_isWord w1 σ) := Con.of (plainFor_of_name (by decide)) rfl (Nat.le_of_ble_eq_true rfl) (fun K hl hG hO hR => by subst hl; subst hG; exact b_X5_isWord hO hR hw1  σ)
theorem cal_X5_isWord : CalV yX5_isWord cX5_isWord 3 (some .boolean) 1 := ⟨a_230, a_231, a_232, a_217, by decide, by decide, by decide +kernel⟩
theorem k_X5_isWord {K : Kt} {nL : Nat} {cs : Nat × Nat} {σ : Wd} {pc : Nat} {lv : List (Nat × Value)} {st : List Value} {cc : ByteArray} {own : String} {rm : Room} {index : Nat} {g : Int32 → Wd → Option (Int32 × Wd)} {w1 : Nat} (hO : Ok K cc own nL rm) (hw1 : Nat.blt w1 13 = true) (hl : Cond.methodLink own index yX5_isWord ∈ gtb) (hcat : Nat.ble ((st.map fun v => v.category).sum) 8 = true) (hR : RoomOk rm cs 5 106 3) (d : decode cc pc = .ok (.invokevirtual index, 3)) (kk : ∀ (r : Int32) (σ : Wd), Cm K nL cs (g r σ) σ (pc + 3) lv (.int r :: st)) : Cm K nL cs (bd (f_X5_isWord w1 σ) g) σ pc lv (.ref (K.G.aK w1) :: .ref (K.G.A 1) :: st) := r_cVi hO (c_X5_isWord hw1  σ) cal_X5_isWord hl rfl (by decide) ent_X5 rfl rfl hcat hR d kk
/-! OrderSplit_Tape.fails -/
def f_X5_fails (a1 : Int32) (σ : Wd) : Option (Int32 × Wd) := nmW (wi σ 1 1 a1) fun σ1 => nmW (wi σ1 1 2 (σ1.1 1 8)) fun σ2 => gd (isb (0 : Int32)) (some ((0 : Int32), σ2))
set_option maxRecDepth 20000 in
set_option maxHeartbeats 1000000 in
theorem b_X5_fails {K : Kt}  (hO : Ok K cX5_fails RX5 2 rm_X5_fails) (hR : Rt K (some .boolean))  (a1 : Int32) (σ : Wd) : Cm K 2 (0, 0) (f_X5_fails a1 σ) σ 0 [(0, .ref (K.G.A 1)), (1, .int a1)] [] := by
  refine r_aload_n (i := 0) hO rfl rfl dX5_fails_0 ?_
  refine r_iload_n (i := 1) hO rfl rfl dX5_fails_1 ?_
  refine pX5_15 hO dX5_fails_2 ?_
  refine r_nmW fun σ1 => ?_
  refine r_aload_n (i := 0) hO rfl rfl dX5_fails_5 ?_
  refine r_aload_n (i := 0) hO rfl rfl dX5_fails_6 ?_
  refine gX5_38 hO dX5_fails_7 ?_
  refine pX5_18 hO dX5_fails_10 ?_
  refine r_nmW fun σ2 => ?_
  refine r_iconst hO ci_0 dX5_fails_13 ?_
  exact r_zret hO hR dX5_fails_14
theorem c_X5_fails {l : Launch} {G : Gh}   (a1 : Int32) (σ : Wd) : Con l G yX5_fails cX5_fails 2 (some .boolean) 0 0 [.ref (G.A 1), .int a1] σ (f_X5_fails a1 σ) := Con.of (plainFor_of_name (by decide)) rfl (Nat.le_of_ble_eq_true rfl) (fun K hl hG hO hR => by subst hl; subst hG; exact b_X5_fails hO hR  a1 σ)
theorem cal_X5_fails : CalV yX5_fails cX5_fails 2 (some .boolean) 1 := ⟨a_233, a_234, a_235, a_217, by decide, by decide, by decide +kernel⟩
theorem k_X5_fails {K : Kt} {nL : Nat} {cs : Nat × Nat} {σ : Wd} {pc : Nat} {lv : List (Nat × Value)} {st : List Value} {cc : ByteArray} {own : String} {rm : Room} {index : Nat} {g : Int32 → Wd → Option (Int32 × Wd)} {a1 : Int32} (hO : Ok K cc own nL rm)  (hl : Cond.methodLink own index yX5_fails ∈ gtb) (hcat : Nat.ble ((st.map fun v => v.category).sum) 8 = true) (hR : RoomOk rm cs 0 0 2) (d : decode cc pc = .ok (.invokevirtual index, 3)) (kk : ∀ (r : Int32) (σ : Wd), Cm K nL cs (g r σ) σ (pc + 3) lv (.int r :: st)) : Cm K nL cs (bd (f_X5_fails a1 σ) g) σ pc lv (.int a1 :: .ref (K.G.A 1) :: st) := r_cVi hO (c_X5_fails  a1 σ) cal_X5_fails hl rfl (by decide) ent_X5 rfl rfl hcat hR d kk
/-! OrderSplit_Tape.takesWord -/
def f_X5_takesWord (w1 : Nat) (σ : Wd) : Option (Int32 × Wd) := bd (f_X5_isWord w1 σ) fun r1 σ2 => if r1 = 0 then (bd (f_X5_fails (1 : Int32) σ2) fun r3 σ4 => gd (isb r3) (some (r3, σ4))) else (bd (f_X5_step σ2) fun _ σ5 => gd (isb (1 : Int32)) (some ((1 : Int32), σ5)))
set_option maxRecDepth 20000 in
set_option maxHeartbeats 1000000 in
theorem b_X5_takesWord {K : Kt} {w1 : Nat} (hO : Ok K cX5_takesWord RX5 2 rm_X5_takesWord) (hR : Rt K (some .boolean)) (hw1 : Nat.blt w1 13 = true)  (σ : Wd) : Cm K 2 (0, 0) (f_X5_takesWord w1 σ) σ 0 [(0, .ref (K.G.A 1)), (1, .ref (K.G.aK w1))] [] := by
  refine r_aload_n (i := 0) hO rfl rfl dX5_takesWord_0 ?_
  refine r_aload_n (i := 1) hO rfl rfl dX5_takesWord_1 ?_
  refine k_X5_isWord hO hw1 a_236 rfl ⟨rfl, rfl, Nat.le_refl _, Nat.le_refl _⟩ dX5_takesWord_2 ?_
  intro r1 σ2
  refine r_if_ne (tgt := 14) hO dX5_takesWord_5 (by decide) ?_ ?_
  · refine r_aload_n (i := 0) hO rfl rfl dX5_takesWord_8 ?_
    refine r_iconst hO ci_1 dX5_takesWord_9 ?_
    refine k_X5_fails hO a_237 rfl ⟨rfl, rfl, Nat.le_refl _, Nat.le_refl _⟩ dX5_takesWord_10 ?_
    intro r3 σ4
    exact r_zret hO hR dX5_takesWord_13
  · refine r_aload_n (i := 0) hO rfl rfl dX5_takesWord_14 ?_
    refine k_X5_step hO a_238 rfl ⟨rfl, rfl, Nat.le_refl _, Nat.le_refl _⟩ dX5_takesWord_15 ?_
    intro _ σ5
    refine r_iconst hO ci_1 dX5_takesWord_18 ?_
    exact r_zret hO hR dX5_takesWord_19
theorem c_X5_takesWord {l : Launch} {G : Gh} {w1 : Nat} (hw1 : Nat.blt w1 13 = true)  (σ : Wd) : Con l G yX5_takesWord cX5_takesWord 2 (some .boolean) 6 128 [.ref (G.A 1), .ref (G.aK w1)] σ (f_X5_takesWord w1 σ) := Con.of (plainFor_of_name (by decide)) rfl (Nat.le_of_ble_eq_true rfl) (fun K hl hG hO hR => by subst hl; subst hG; exact b_X5_takesWord hO hR hw1  σ)
theorem cal_X5_takesWord : CalV yX5_takesWord cX5_takesWord 2 (some .boolean) 1 := ⟨a_239, a_240, a_241, a_217, by decide, by decide, by decide +kernel⟩
theorem k_X5_takesWord {K : Kt} {nL : Nat} {cs : Nat × Nat} {σ : Wd} {pc : Nat} {lv : List (Nat × Value)} {st : List Value} {cc : ByteArray} {own : String} {rm : Room} {index : Nat} {g : Int32 → Wd → Option (Int32 × Wd)} {w1 : Nat} (hO : Ok K cc own nL rm) (hw1 : Nat.blt w1 13 = true) (hl : Cond.methodLink own index yX5_takesWord ∈ gtb) (hcat : Nat.ble ((st.map fun v => v.category).sum) 8 = true) (hR : RoomOk rm cs 6 128 2) (d : decode cc pc = .ok (.invokevirtual index, 3)) (kk : ∀ (r : Int32) (σ : Wd), Cm K nL cs (g r σ) σ (pc + 3) lv (.int r :: st)) : Cm K nL cs (bd (f_X5_takesWord w1 σ) g) σ pc lv (.ref (K.G.aK w1) :: .ref (K.G.A 1) :: st) := r_cVi hO (c_X5_takesWord hw1  σ) cal_X5_takesWord hl rfl (by decide) ent_X5 rfl rfl hcat hR d kk
/-! OrderSplit_Tape.takesWhole -/
def f_X5_takesWhole_30    (σ : Wd) : Option (Int32 × Wd) := bd (f_X5_fails (4 : Int32) σ) fun r1 σ2 => gd (isb r1) (some (r1, σ2))
def f_X5_takesWhole (a1 : Int32) (a2 : Int32) (σ : Wd) : Option (Int32 × Wd) := if (σ.1 1 7) = (2 : Int32) then (if (σ.1 1 9) < a1 then (f_X5_takesWhole_30 σ) else (if (σ.1 1 9) ≤ a2 then (nmW (wi σ 1 10 (σ.1 1 9)) fun σ1 => bd (f_X5_step σ1) fun _ σ2 => gd (isb (1 : Int32)) (some ((1 : Int32), σ2))) else (f_X5_takesWhole_30 σ))) else (bd (f_X5_fails (1 : Int32) σ) fun r3 σ4 => gd (isb r3) (some (r3, σ4)))
set_option maxRecDepth 20000 in
set_option maxHeartbeats 1000000 in
theorem b_X5_takesWhole_30 {K : Kt}   (hO : Ok K cX5_takesWhole RX5 3 rm_X5_takesWhole) (hR : Rt K (some .boolean))    (σ : Wd)  : Cm K 3 (0, 0) (f_X5_takesWhole_30   σ) σ 30 [(0, .ref (K.G.A 1))] [] := by
  refine r_aload_n (i := 0) hO rfl rfl dX5_takesWhole_30 ?_
  refine r_iconst hO ci_4 dX5_takesWhole_31 ?_
  refine k_X5_fails hO a_237 rfl ⟨rfl, rfl, Nat.le_refl _, Nat.le_refl _⟩ dX5_takesWhole_32 ?_
  intro r1 σ2
  exact r_zret hO hR dX5_takesWhole_35
set_option maxRecDepth 20000 in
set_option maxHeartbeats 1000000 in
theorem b_X5_takesWhole {K : Kt}  (hO : Ok K cX5_takesWhole RX5 3 rm_X5_takesWhole) (hR : Rt K (some .boolean))  (a1 : Int32) (a2 : Int32) (σ : Wd) : Cm K 3 (0, 0) (f_X5_takesWhole a1 a2 σ) σ 0 [(0, .ref (K.G.A 1)), (1, .int a1), (2, .int a2)] [] := by
  refine r_aload_n (i := 0) hO rfl rfl dX5_takesWhole_0 ?_
  refine gX5_35 hO dX5_takesWhole_1 ?_
  refine r_iconst hO ci_2 dX5_takesWhole_4 ?_
  refine r_icmp_eq (tgt := 14) hO dX5_takesWhole_5 (by decide) ?_ ?_
  · refine r_aload_n (i := 0) hO rfl rfl dX5_takesWhole_14 ?_
    refine gX5_41 hO dX5_takesWhole_15 ?_
    refine r_iload_n (i := 1) hO rfl rfl dX5_takesWhole_18 ?_
    refine r_icmp_lt (tgt := 30) hO dX5_takesWhole_19 (by decide) ?_ ?_
    · exact r_jmp (b_X5_takesWhole_30 hO hR σ) (lsub_c rfl lsub_n)
    · refine r_aload_n (i := 0) hO rfl rfl dX5_takesWhole_22 ?_
      refine gX5_41 hO dX5_takesWhole_23 ?_
      refine r_iload_n (i := 2) hO rfl rfl dX5_takesWhole_26 ?_
      refine r_icmp_le (tgt := 36) hO dX5_takesWhole_27 (by decide) ?_ ?_
      · refine r_aload_n (i := 0) hO rfl rfl dX5_takesWhole_36 ?_
        refine r_aload_n (i := 0) hO rfl rfl dX5_takesWhole_37 ?_
        refine gX5_41 hO dX5_takesWhole_38 ?_
        refine pX5_44 hO dX5_takesWhole_41 ?_
        refine r_nmW fun σ1 => ?_
        refine r_aload_n (i := 0) hO rfl rfl dX5_takesWhole_44 ?_
        refine k_X5_step hO a_238 rfl ⟨rfl, rfl, Nat.le_refl _, Nat.le_refl _⟩ dX5_takesWhole_45 ?_
        intro _ σ2
        refine r_iconst hO ci_1 dX5_takesWhole_48 ?_
        exact r_zret hO hR dX5_takesWhole_49
      · exact r_jmp (b_X5_takesWhole_30 hO hR σ) (lsub_c rfl lsub_n)
  · refine r_aload_n (i := 0) hO rfl rfl dX5_takesWhole_8 ?_
    refine r_iconst hO ci_1 dX5_takesWhole_9 ?_
    refine k_X5_fails hO a_237 rfl ⟨rfl, rfl, Nat.le_refl _, Nat.le_refl _⟩ dX5_takesWhole_10 ?_
    intro r3 σ4
    exact r_zret hO hR dX5_takesWhole_13
theorem c_X5_takesWhole {l : Launch} {G : Gh}   (a1 : Int32) (a2 : Int32) (σ : Wd) : Con l G yX5_takesWhole cX5_takesWhole 3 (some .boolean) 2 45 [.ref (G.A 1), .int a1, .int a2] σ (f_X5_takesWhole a1 a2 σ) := Con.of (plainFor_of_name (by decide)) rfl (Nat.le_of_ble_eq_true rfl) (fun K hl hG hO hR => by subst hl; subst hG; exact b_X5_takesWhole hO hR  a1 a2 σ)
theorem cal_X5_takesWhole : CalV yX5_takesWhole cX5_takesWhole 3 (some .boolean) 2 := ⟨a_242, a_243, a_244, a_217, by decide, by decide, by decide +kernel⟩
theorem k_X5_takesWhole {K : Kt} {nL : Nat} {cs : Nat × Nat} {σ : Wd} {pc : Nat} {lv : List (Nat × Value)} {st : List Value} {cc : ByteArray} {own : String} {rm : Room} {index : Nat} {g : Int32 → Wd → Option (Int32 × Wd)} {a1 : Int32} {a2 : Int32} (hO : Ok K cc own nL rm)  (hl : Cond.methodLink own index yX5_takesWhole ∈ gtb) (hcat : Nat.ble ((st.map fun v => v.category).sum) 8 = true) (hR : RoomOk rm cs 2 45 3) (d : decode cc pc = .ok (.invokevirtual index, 3)) (kk : ∀ (r : Int32) (σ : Wd), Cm K nL cs (g r σ) σ (pc + 3) lv (.int r :: st)) : Cm K nL cs (bd (f_X5_takesWhole a1 a2 σ) g) σ pc lv (.int a2 :: .int a1 :: .ref (K.G.A 1) :: st) := r_cVi hO (c_X5_takesWhole  a1 a2 σ) cal_X5_takesWhole hl rfl (by decide) ent_X5 rfl rfl hcat hR d kk
/-! OrderSplit_Tape.readOrder -/
def f_X5_readOrder_32 (m1 : Nat)   (σ : Wd) : Option (Int32 × Wd) := gd (isb (0 : Int32)) (some ((0 : Int32), σ))
def f_X5_readOrder_62 (m1 : Nat)   (σ : Wd) : Option (Int32 × Wd) := gd (isb (0 : Int32)) (some ((0 : Int32), σ))
def f_X5_readOrder_91 (m1 : Nat)   (σ : Wd) : Option (Int32 × Wd) := gd (isb (0 : Int32)) (some ((0 : Int32), σ))
def f_X5_readOrder (m1 : Nat) (σ : Wd) : Option (Int32 × Wd) := if (σ.1 m1 0) = 0 then (bd (f_X5_takesWord 0 σ) fun r1 σ2 => if r1 = 0 then (f_X5_readOrder_32 m1 σ2) else (bd (f_X5_takesWhole (1 : Int32) (120 : Int32) σ2) fun r3 σ4 => if r3 = 0 then (f_X5_readOrder_32 m1 σ4) else (nmW (wi σ4 m1 0 (σ4.1 1 10)) fun σ5 => bd (f_X5_takesWord 4 σ5) fun r6 σ7 => if r6 = 0 then (f_X5_readOrder_62 m1 σ7) else (bd (f_X5_takesWhole (1 : Int32) (999 : Int32) σ7) fun r8 σ9 => if r8 = 0 then (f_X5_readOrder_62 m1 σ9) else (nmW (wi σ9 m1 1 (σ9.1 1 10)) fun σ10 => bd (f_X5_takesWord 5 σ10) fun r11 σ12 => if r11 = 0 then (f_X5_readOrder_91 m1 σ12) else (bd (f_X5_takesWhole (1 : Int32) (20 : Int32) σ12) fun r13 σ14 => if r13 = 0 then (f_X5_readOrder_91 m1 σ14) else (nmW (wi σ14 m1 2 (σ14.1 1 10)) fun σ15 => gd (isb (1 : Int32)) (some ((1 : Int32), σ15))))))))) else (bd (f_X5_fails (3 : Int32) σ) fun r16 σ17 => gd (isb r16) (some (r16, σ17)))
set_option maxRecDepth 20000 in
set_option maxHeartbeats 1000000 in
theorem b_X5_readOrder_32 {K : Kt} {m1 : Nat}  (hO : Ok K cX5_readOrder RX5 2 rm_X5_readOrder) (hR : Rt K (some .boolean)) (hm1 : isM m1)   (σ : Wd)  : Cm K 2 (0, 0) (f_X5_readOrder_32 m1  σ) σ 32 [] [] := by
  refine r_iconst hO ci_0 dX5_readOrder_32 ?_
  exact r_zret hO hR dX5_readOrder_33
set_option maxRecDepth 20000 in
set_option maxHeartbeats 1000000 in
theorem b_X5_readOrder_62 {K : Kt} {m1 : Nat}  (hO : Ok K cX5_readOrder RX5 2 rm_X5_readOrder) (hR : Rt K (some .boolean)) (hm1 : isM m1)   (σ : Wd)  : Cm K 2 (0, 0) (f_X5_readOrder_62 m1  σ) σ 62 [] [] := by
  refine r_iconst hO ci_0 dX5_readOrder_62 ?_
  exact r_zret hO hR dX5_readOrder_63
set_option maxRecDepth 20000 in
set_option maxHeartbeats 1000000 in
theorem b_X5_readOrder_91 {K : Kt} {m1 : Nat}  (hO : Ok K cX5_readOrder RX5 2 rm_X5_readOrder) (hR : Rt K (some .boolean)) (hm1 : isM m1)   (σ : Wd)  : Cm K 2 (0, 0) (f_X5_readOrder_91 m1  σ) σ 91 [] [] := by
  refine r_iconst hO ci_0 dX5_readOrder_91 ?_
  exact r_zret hO hR dX5_readOrder_92
set_option maxRecDepth 20000 in
set_option maxHeartbeats 1000000 in
theorem b_X5_readOrder {K : Kt} {m1 : Nat} (hO : Ok K cX5_readOrder RX5 2 rm_X5_readOrder) (hR : Rt K (some .boolean)) (hm1 : isM m1)  (σ : Wd) : Cm K 2 (0, 0) (f_X5_readOrder m1 σ) σ 0 [(0, .ref (K.G.A 1)), (1, .ref (K.G.A m1))] [] := by
  refine r_aload_n (i := 1) hO rfl rfl dX5_readOrder_0 ?_
  refine gX5_98 hO hm1 dX5_readOrder_1 ?_
  refine r_if_eq (tgt := 13) hO dX5_readOrder_4 (by decide) ?_ ?_
  · refine r_aload_n (i := 0) hO rfl rfl dX5_readOrder_13 ?_
    refine r_ldcS hO t_X5_66 dX5_readOrder_14 ?_
    refine k_X5_takesWord hO (rfl : Nat.blt 0 13 = true) a_245 rfl ⟨rfl, rfl, Nat.le_refl _, Nat.le_refl _⟩ dX5_readOrder_16 ?_
    intro r1 σ2
    refine r_if_eq (tgt := 32) hO dX5_readOrder_19 (by decide) ?_ ?_
    · exact r_jmp (b_X5_readOrder_32 hO hR hm1 σ2) lsub_n
    · refine r_aload_n (i := 0) hO rfl rfl dX5_readOrder_22 ?_
      refine r_iconst hO ci_1 dX5_readOrder_23 ?_
      refine r_bipush hO bi_120 dX5_readOrder_24 ?_
      refine k_X5_takesWhole hO a_246 rfl ⟨rfl, rfl, Nat.le_refl _, Nat.le_refl _⟩ dX5_readOrder_26 ?_
      intro r3 σ4
      refine r_if_ne (tgt := 34) hO dX5_readOrder_29 (by decide) ?_ ?_
      · exact r_jmp (b_X5_readOrder_32 hO hR hm1 σ4) lsub_n
      · refine r_aload_n (i := 1) hO rfl rfl dX5_readOrder_34 ?_
        refine r_aload_n (i := 0) hO rfl rfl dX5_readOrder_35 ?_
        refine gX5_44 hO dX5_readOrder_36 ?_
        refine pX5_98 hO hm1 dX5_readOrder_39 ?_
        refine r_nmW fun σ5 => ?_
        refine r_aload_n (i := 0) hO rfl rfl dX5_readOrder_42 ?_
        refine r_ldcS hO t_X5_108 dX5_readOrder_43 ?_
        refine k_X5_takesWord hO (rfl : Nat.blt 4 13 = true) a_245 rfl ⟨rfl, rfl, Nat.le_refl _, Nat.le_refl _⟩ dX5_readOrder_45 ?_
        intro r6 σ7
        refine r_if_eq (tgt := 62) hO dX5_readOrder_48 (by decide) ?_ ?_
        · exact r_jmp (b_X5_readOrder_62 hO hR hm1 σ7) lsub_n
        · refine r_aload_n (i := 0) hO rfl rfl dX5_readOrder_51 ?_
          refine r_iconst hO ci_1 dX5_readOrder_52 ?_
          refine r_sipush hO si_999 dX5_readOrder_53 ?_
          refine k_X5_takesWhole hO a_246 rfl ⟨rfl, rfl, Nat.le_refl _, Nat.le_refl _⟩ dX5_readOrder_56 ?_
          intro r8 σ9
          refine r_if_ne (tgt := 64) hO dX5_readOrder_59 (by decide) ?_ ?_
          · exact r_jmp (b_X5_readOrder_62 hO hR hm1 σ9) lsub_n
          · refine r_aload_n (i := 1) hO rfl rfl dX5_readOrder_64 ?_
            refine r_aload_n (i := 0) hO rfl rfl dX5_readOrder_65 ?_
            refine gX5_44 hO dX5_readOrder_66 ?_
            refine pX5_110 hO hm1 dX5_readOrder_69 ?_
            refine r_nmW fun σ10 => ?_
            refine r_aload_n (i := 0) hO rfl rfl dX5_readOrder_72 ?_
            refine r_ldcS hO t_X5_112 dX5_readOrder_73 ?_
            refine k_X5_takesWord hO (rfl : Nat.blt 5 13 = true) a_245 rfl ⟨rfl, rfl, Nat.le_refl _, Nat.le_refl _⟩ dX5_readOrder_75 ?_
            intro r11 σ12
            refine r_if_eq (tgt := 91) hO dX5_readOrder_78 (by decide) ?_ ?_
            · exact r_jmp (b_X5_readOrder_91 hO hR hm1 σ12) lsub_n
            · refine r_aload_n (i := 0) hO rfl rfl dX5_readOrder_81 ?_
              refine r_iconst hO ci_1 dX5_readOrder_82 ?_
              refine r_bipush hO bi_20 dX5_readOrder_83 ?_
              refine k_X5_takesWhole hO a_246 rfl ⟨rfl, rfl, Nat.le_refl _, Nat.le_refl _⟩ dX5_readOrder_85 ?_
              intro r13 σ14
              refine r_if_ne (tgt := 93) hO dX5_readOrder_88 (by decide) ?_ ?_
              · exact r_jmp (b_X5_readOrder_91 hO hR hm1 σ14) lsub_n
              · refine r_aload_n (i := 1) hO rfl rfl dX5_readOrder_93 ?_
                refine r_aload_n (i := 0) hO rfl rfl dX5_readOrder_94 ?_
                refine gX5_44 hO dX5_readOrder_95 ?_
                refine pX5_114 hO hm1 dX5_readOrder_98 ?_
                refine r_nmW fun σ15 => ?_
                refine r_iconst hO ci_1 dX5_readOrder_101 ?_
                exact r_zret hO hR dX5_readOrder_102
  · refine r_aload_n (i := 0) hO rfl rfl dX5_readOrder_7 ?_
    refine r_iconst hO ci_3 dX5_readOrder_8 ?_
    refine k_X5_fails hO a_237 rfl ⟨rfl, rfl, Nat.le_refl _, Nat.le_refl _⟩ dX5_readOrder_9 ?_
    intro r16 σ17
    exact r_zret hO hR dX5_readOrder_12
theorem c_X5_readOrder {l : Launch} {G : Gh} {m1 : Nat} (hm1 : isM m1)  (σ : Wd) : Con l G yX5_readOrder cX5_readOrder 2 (some .boolean) 7 149 [.ref (G.A 1), .ref (G.A m1)] σ (f_X5_readOrder m1 σ) := Con.of (plainFor_of_name (by decide)) rfl (Nat.le_of_ble_eq_true rfl) (fun K hl hG hO hR => by subst hl; subst hG; exact b_X5_readOrder hO hR hm1  σ)
theorem cal_X5_readOrder : CalV yX5_readOrder cX5_readOrder 2 (some .boolean) 1 := ⟨a_247, a_248, a_249, a_217, by decide, by decide, by decide +kernel⟩
theorem k_X5_readOrder {K : Kt} {nL : Nat} {cs : Nat × Nat} {σ : Wd} {pc : Nat} {lv : List (Nat × Value)} {st : List Value} {cc : ByteArray} {own : String} {rm : Room} {index : Nat} {g : Int32 → Wd → Option (Int32 × Wd)} {m1 : Nat} (hO : Ok K cc own nL rm) (hm1 : isM m1) (hl : Cond.methodLink own index yX5_readOrder ∈ gtb) (hcat : Nat.ble ((st.map fun v => v.category).sum) 8 = true) (hR : RoomOk rm cs 7 149 2) (d : decode cc pc = .ok (.invokevirtual index, 3)) (kk : ∀ (r : Int32) (σ : Wd), Cm K nL cs (g r σ) σ (pc + 3) lv (.int r :: st)) : Cm K nL cs (bd (f_X5_readOrder m1 σ) g) σ pc lv (.ref (K.G.A m1) :: .ref (K.G.A 1) :: st) := r_cVi hO (c_X5_readOrder hm1  σ) cal_X5_readOrder hl rfl (by decide) ent_X5 rfl rfl hcat hR d kk
/-! OrderSplit_Tape.opens -/
def f_X5_opens (m1 : Nat) (a2 : Int32) (σ : Wd) : Option (Int32 × Wd) := if a2 = 0 then (bd (f_X5_fails (5 : Int32) σ) fun r1 σ2 => gd (isb r1) (some (r1, σ2))) else (if (σ.1 m1 0) = 0 then (bd (f_X5_fails (6 : Int32) σ) fun r3 σ4 => gd (isb r3) (some (r3, σ4))) else (bd (f_X5_step σ) fun _ σ5 => gd (isb (1 : Int32)) (some ((1 : Int32), σ5))))
set_option maxRecDepth 20000 in
set_option maxHeartbeats 1000000 in
theorem b_X5_opens {K : Kt} {m1 : Nat} (hO : Ok K cX5_opens RX5 3 rm_X5_opens) (hR : Rt K (some .boolean)) (hm1 : isM m1) (a2 : Int32) (σ : Wd) : Cm K 3 (0, 0) (f_X5_opens m1 a2 σ) σ 0 [(0, .ref (K.G.A 1)), (1, .ref (K.G.A m1)), (2, .int a2)] [] := by
  refine r_iload_n (i := 2) hO rfl rfl dX5_opens_0 ?_
  refine r_if_ne (tgt := 10) hO dX5_opens_1 (by decide) ?_ ?_
  · refine r_aload_n (i := 0) hO rfl rfl dX5_opens_4 ?_
    refine r_iconst hO ci_5 dX5_opens_5 ?_
    refine k_X5_fails hO a_237 rfl ⟨rfl, rfl, Nat.le_refl _, Nat.le_refl _⟩ dX5_opens_6 ?_
    intro r1 σ2
    exact r_zret hO hR dX5_opens_9
  · refine r_aload_n (i := 1) hO rfl rfl dX5_opens_10 ?_
    refine gX5_98 hO hm1 dX5_opens_11 ?_
    refine r_if_ne (tgt := 24) hO dX5_opens_14 (by decide) ?_ ?_
    · refine r_aload_n (i := 0) hO rfl rfl dX5_opens_17 ?_
      refine r_bipush hO bi_6 dX5_opens_18 ?_
      refine k_X5_fails hO a_237 rfl ⟨rfl, rfl, Nat.le_refl _, Nat.le_refl _⟩ dX5_opens_20 ?_
      intro r3 σ4
      exact r_zret hO hR dX5_opens_23
    · refine r_aload_n (i := 0) hO rfl rfl dX5_opens_24 ?_
      refine k_X5_step hO a_238 rfl ⟨rfl, rfl, Nat.le_refl _, Nat.le_refl _⟩ dX5_opens_25 ?_
      intro _ σ5
      refine r_iconst hO ci_1 dX5_opens_28 ?_
      exact r_zret hO hR dX5_opens_29
theorem c_X5_opens {l : Launch} {G : Gh} {m1 : Nat} (hm1 : isM m1) (a2 : Int32) (σ : Wd) : Con l G yX5_opens cX5_opens 3 (some .boolean) 2 45 [.ref (G.A 1), .ref (G.A m1), .int a2] σ (f_X5_opens m1 a2 σ) := Con.of (plainFor_of_name (by decide)) rfl (Nat.le_of_ble_eq_true rfl) (fun K hl hG hO hR => by subst hl; subst hG; exact b_X5_opens hO hR hm1 a2 σ)
theorem cal_X5_opens : CalV yX5_opens cX5_opens 3 (some .boolean) 2 := ⟨a_250, a_251, a_252, a_217, by decide, by decide, by decide +kernel⟩
theorem k_X5_opens {K : Kt} {nL : Nat} {cs : Nat × Nat} {σ : Wd} {pc : Nat} {lv : List (Nat × Value)} {st : List Value} {cc : ByteArray} {own : String} {rm : Room} {index : Nat} {g : Int32 → Wd → Option (Int32 × Wd)} {m1 : Nat} {a2 : Int32} (hO : Ok K cc own nL rm) (hm1 : isM m1) (hl : Cond.methodLink own index yX5_opens ∈ gtb) (hcat : Nat.ble ((st.map fun v => v.category).sum) 8 = true) (hR : RoomOk rm cs 2 45 3) (d : decode cc pc = .ok (.invokevirtual index, 3)) (kk : ∀ (r : Int32) (σ : Wd), Cm K nL cs (g r σ) σ (pc + 3) lv (.int r :: st)) : Cm K nL cs (bd (f_X5_opens m1 a2 σ) g) σ pc lv (.int a2 :: .ref (K.G.A m1) :: .ref (K.G.A 1) :: st) := r_cVi hO (c_X5_opens hm1 a2 σ) cal_X5_opens hl rfl (by decide) ent_X5 rfl rfl hcat hR d kk
/-! OrderSplit_Tape.isName -/
def f_X5_isName_49   (s0 : Int32) (σ : Wd) : Option (Int32 × Wd) := gd (isb s0) (some (s0, σ))
def f_X5_isName_48    (σ : Wd) : Option (Int32 × Wd) := (f_X5_isName_49 (0 : Int32) σ)
def f_X5_isName  (σ : Wd) : Option (Int32 × Wd) := if (σ.1 1 7) = (1 : Int32) then (bd (f_X5_isWord 0 σ) fun r1 σ2 => if r1 = 0 then (bd (f_X5_isWord 1 σ2) fun r3 σ4 => if r3 = 0 then (bd (f_X5_isWord 2 σ4) fun r5 σ6 => if r5 = 0 then (bd (f_X5_isWord 3 σ6) fun r7 σ8 => if r7 = 0 then (f_X5_isName_49 (1 : Int32) σ8) else (f_X5_isName_48 σ8)) else (f_X5_isName_48 σ6)) else (f_X5_isName_48 σ4)) else (f_X5_isName_48 σ2)) else (f_X5_isName_48 σ)
set_option maxRecDepth 20000 in
set_option maxHeartbeats 1000000 in
theorem b_X5_isName_49 {K : Kt}   (hO : Ok K cX5_isName RX5 1 rm_X5_isName) (hR : Rt K (some .boolean))   (s0 : Int32) (σ : Wd)  : Cm K 1 (0, 0) (f_X5_isName_49  s0 σ) σ 49 [] [.int s0] := by
  exact r_zret hO hR dX5_isName_49
set_option maxRecDepth 20000 in
set_option maxHeartbeats 1000000 in
theorem b_X5_isName_48 {K : Kt}   (hO : Ok K cX5_isName RX5 1 rm_X5_isName) (hR : Rt K (some .boolean))    (σ : Wd)  : Cm K 1 (0, 0) (f_X5_isName_48   σ) σ 48 [] [] := by
  refine r_iconst hO ci_0 dX5_isName_48 ?_
  exact r_jmp (b_X5_isName_49 hO hR (0 : Int32) σ) lsub_n
set_option maxRecDepth 20000 in
set_option maxHeartbeats 1000000 in
theorem b_X5_isName {K : Kt}  (hO : Ok K cX5_isName RX5 1 rm_X5_isName) (hR : Rt K (some .boolean))   (σ : Wd) : Cm K 1 (0, 0) (f_X5_isName  σ) σ 0 [(0, .ref (K.G.A 1))] [] := by
  refine r_aload_n (i := 0) hO rfl rfl dX5_isName_0 ?_
  refine gX5_35 hO dX5_isName_1 ?_
  refine r_iconst hO ci_1 dX5_isName_4 ?_
  refine r_icmp_ne (tgt := 48) hO dX5_isName_5 (by decide) ?_ ?_
  · refine r_aload_n (i := 0) hO rfl rfl dX5_isName_8 ?_
    refine r_ldcS hO t_X5_66 dX5_isName_9 ?_
    refine k_X5_isWord hO (rfl : Nat.blt 0 13 = true) a_236 rfl ⟨rfl, rfl, Nat.le_refl _, Nat.le_refl _⟩ dX5_isName_11 ?_
    intro r1 σ2
    refine r_if_ne (tgt := 48) hO dX5_isName_14 (by decide) ?_ ?_
    · refine r_aload_n (i := 0) hO rfl rfl dX5_isName_17 ?_
      refine r_ldcS hO t_X5_75 dX5_isName_18 ?_
      refine k_X5_isWord hO (rfl : Nat.blt 1 13 = true) a_236 rfl ⟨rfl, rfl, Nat.le_refl _, Nat.le_refl _⟩ dX5_isName_20 ?_
      intro r3 σ4
      refine r_if_ne (tgt := 48) hO dX5_isName_23 (by decide) ?_ ?_
      · refine r_aload_n (i := 0) hO rfl rfl dX5_isName_26 ?_
        refine r_ldcS hO t_X5_85 dX5_isName_27 ?_
        refine k_X5_isWord hO (rfl : Nat.blt 2 13 = true) a_236 rfl ⟨rfl, rfl, Nat.le_refl _, Nat.le_refl _⟩ dX5_isName_29 ?_
        intro r5 σ6
        refine r_if_ne (tgt := 48) hO dX5_isName_32 (by decide) ?_ ?_
        · refine r_aload_n (i := 0) hO rfl rfl dX5_isName_35 ?_
          refine r_ldcS hO t_X5_90 dX5_isName_36 ?_
          refine k_X5_isWord hO (rfl : Nat.blt 3 13 = true) a_236 rfl ⟨rfl, rfl, Nat.le_refl _, Nat.le_refl _⟩ dX5_isName_38 ?_
          intro r7 σ8
          refine r_if_ne (tgt := 48) hO dX5_isName_41 (by decide) ?_ ?_
          · refine r_iconst hO ci_1 dX5_isName_44 ?_
            refine r_goto (tgt := 49) hO dX5_isName_45 (by decide) ?_
            exact r_jmp (b_X5_isName_49 hO hR (1 : Int32) σ8) lsub_n
          · exact r_jmp (b_X5_isName_48 hO hR σ8) lsub_n
        · exact r_jmp (b_X5_isName_48 hO hR σ6) lsub_n
      · exact r_jmp (b_X5_isName_48 hO hR σ4) lsub_n
    · exact r_jmp (b_X5_isName_48 hO hR σ2) lsub_n
  · exact r_jmp (b_X5_isName_48 hO hR σ) lsub_n
theorem c_X5_isName {l : Launch} {G : Gh}    (σ : Wd) : Con l G yX5_isName cX5_isName 1 (some .boolean) 6 128 [.ref (G.A 1)] σ (f_X5_isName  σ) := Con.of (plainFor_of_name (by decide)) rfl (Nat.le_of_ble_eq_true rfl) (fun K hl hG hO hR => by subst hl; subst hG; exact b_X5_isName hO hR   σ)
theorem cal_X5_isName : CalV yX5_isName cX5_isName 1 (some .boolean) 0 := ⟨a_253, a_254, a_255, a_217, by decide, by decide, by decide +kernel⟩
theorem k_X5_isName {K : Kt} {nL : Nat} {cs : Nat × Nat} {σ : Wd} {pc : Nat} {lv : List (Nat × Value)} {st : List Value} {cc : ByteArray} {own : String} {rm : Room} {index : Nat} {g : Int32 → Wd → Option (Int32 × Wd)}  (hO : Ok K cc own nL rm)  (hl : Cond.methodLink own index yX5_isName ∈ gtb) (hcat : Nat.ble ((st.map fun v => v.category).sum) 8 = true) (hR : RoomOk rm cs 6 128 1) (d : decode cc pc = .ok (.invokevirtual index, 3)) (kk : ∀ (r : Int32) (σ : Wd), Cm K nL cs (g r σ) σ (pc + 3) lv (.int r :: st)) : Cm K nL cs (bd (f_X5_isName  σ) g) σ pc lv (.ref (K.G.A 1) :: st) := r_cVi hO (c_X5_isName   σ) cal_X5_isName hl rfl (by decide) ent_X5 rfl rfl hcat hR d kk
/-! OrderSplit_Tape.venueNamed -/
def f_X5_venueNamed_2   : Nat → Int32 → Int32 → Int32 → Wd → Option (Int32 × Wd)
  | 0 => fun _ _ _ _ => none
  | n + 1 => fun x1 x2 x3 σ => if x2 ≤ x3 then (some ((-1 : Int32), σ)) else (gd (inb x3 5) (if (σ.1 3 (ix x3)) = x1 then (some (x3, σ)) else (f_X5_venueNamed_2 n x1 x2 (x3 + (1 : Int32)) σ)))
def f_X5_venueNamed (a1 : Int32) (a2 : Int32) (σ : Wd) : Option (Int32 × Wd) := (f_X5_venueNamed_2 FU a1 a2 (0 : Int32) σ)
set_option maxRecDepth 20000 in
set_option maxHeartbeats 1000000 in
theorem b_X5_venueNamed_2 {K : Kt}   (hO : Ok K cX5_venueNamed RX5 4 rm_X5_venueNamed) (hR : Rt K (some .int))   : ∀ (n : Nat) (x1 : Int32) (x2 : Int32) (x3 : Int32) (σ : Wd) , Cm K 4 (0, 0) (f_X5_venueNamed_2  n x1 x2 x3 σ) σ 2 [(0, .ref (K.G.A 1)), (1, .int x1), (2, .int x2), (3, .int x3)] [] := by
  intro n
  induction n with
  | zero => intro x1 x2 x3 σ ; exact r_none
  | succ n ih =>
    intro x1 x2 x3 σ 
    refine r_iload_n (i := 3) hO rfl rfl dX5_venueNamed_2 ?_
    refine r_iload_n (i := 2) hO rfl rfl dX5_venueNamed_3 ?_
    refine r_icmp_ge (tgt := 25) hO dX5_venueNamed_4 (by decide) ?_ ?_
    · refine r_iconst hO ci_m1 dX5_venueNamed_25 ?_
      exact r_iret hO hR dX5_venueNamed_26
    · refine r_aload_n (i := 0) hO rfl rfl dX5_venueNamed_7 ?_
      refine gX5_25 hO dX5_venueNamed_8 ?_
      refine r_iload_n (i := 3) hO rfl rfl dX5_venueNamed_11 ?_
      refine r_iald hO s_3 dX5_venueNamed_12 ?_
      refine r_iload_n (i := 1) hO rfl rfl dX5_venueNamed_13 ?_
      refine r_icmp_ne (tgt := 19) hO dX5_venueNamed_14 (by decide) ?_ ?_
      · refine r_iload_n (i := 3) hO rfl rfl dX5_venueNamed_17 ?_
        exact r_iret hO hR dX5_venueNamed_18
      · refine r_iinc hO rfl ci_1 rfl rfl dX5_venueNamed_19 ?_
        refine r_goto (tgt := 2) hO dX5_venueNamed_22 (by decide) ?_
        exact r_jmp (ih x1 x2 (x3 + (1 : Int32)) σ) (lsub_c rfl (lsub_c rfl (lsub_c rfl (lsub_c rfl lsub_n))))
set_option maxRecDepth 20000 in
set_option maxHeartbeats 1000000 in
theorem b_X5_venueNamed {K : Kt}  (hO : Ok K cX5_venueNamed RX5 4 rm_X5_venueNamed) (hR : Rt K (some .int))  (a1 : Int32) (a2 : Int32) (σ : Wd) : Cm K 4 (0, 0) (f_X5_venueNamed a1 a2 σ) σ 0 [(0, .ref (K.G.A 1)), (1, .int a1), (2, .int a2)] [] := by
  refine r_iconst hO ci_0 dX5_venueNamed_0 ?_
  refine r_istore_n (i := 3) hO rfl rfl rfl dX5_venueNamed_1 ?_
  exact r_jmp (b_X5_venueNamed_2 hO hR FU a1 a2 (0 : Int32) σ) (lsub_c rfl (lsub_c rfl (lsub_c rfl (lsub_c rfl lsub_n))))
theorem c_X5_venueNamed {l : Launch} {G : Gh}   (a1 : Int32) (a2 : Int32) (σ : Wd) : Con l G yX5_venueNamed cX5_venueNamed 4 (some .int) 0 0 [.ref (G.A 1), .int a1, .int a2] σ (f_X5_venueNamed a1 a2 σ) := Con.of (plainFor_of_name (by decide)) rfl (Nat.le_of_ble_eq_true rfl) (fun K hl hG hO hR => by subst hl; subst hG; exact b_X5_venueNamed hO hR  a1 a2 σ)
theorem cal_X5_venueNamed : CalV yX5_venueNamed cX5_venueNamed 4 (some .int) 2 := ⟨a_256, a_257, a_258, a_217, by decide, by decide, by decide +kernel⟩
theorem k_X5_venueNamed {K : Kt} {nL : Nat} {cs : Nat × Nat} {σ : Wd} {pc : Nat} {lv : List (Nat × Value)} {st : List Value} {cc : ByteArray} {own : String} {rm : Room} {index : Nat} {g : Int32 → Wd → Option (Int32 × Wd)} {a1 : Int32} {a2 : Int32} (hO : Ok K cc own nL rm)  (hl : Cond.methodLink own index yX5_venueNamed ∈ gtb) (hcat : Nat.ble ((st.map fun v => v.category).sum) 8 = true) (hR : RoomOk rm cs 0 0 4) (d : decode cc pc = .ok (.invokevirtual index, 3)) (kk : ∀ (r : Int32) (σ : Wd), Cm K nL cs (g r σ) σ (pc + 3) lv (.int r :: st)) : Cm K nL cs (bd (f_X5_venueNamed a1 a2 σ) g) σ pc lv (.int a2 :: .int a1 :: .ref (K.G.A 1) :: st) := r_cVi hO (c_X5_venueNamed  a1 a2 σ) cal_X5_venueNamed hl rfl (by decide) ent_X5 rfl rfl hcat hR d kk
/-! OrderSplit_Tape.takesKind -/
def f_X5_takesKind_57    (σ : Wd) : Option (Int32 × Wd) := bd (f_X5_step σ) fun _ σ1 => gd (isb (1 : Int32)) (some ((1 : Int32), σ1))
def f_X5_takesKind  (σ : Wd) : Option (Int32 × Wd) := bd (f_X5_isWord 6 σ) fun r1 σ2 => if r1 = 0 then (bd (f_X5_isWord 7 σ2) fun r3 σ4 => if r3 = 0 then (bd (f_X5_isWord 8 σ4) fun r5 σ6 => if r5 = 0 then (bd (f_X5_fails (1 : Int32) σ6) fun r7 σ8 => gd (isb r7) (some (r7, σ8))) else (nmW (wi σ6 1 10 (2 : Int32)) fun σ9 => (f_X5_takesKind_57 σ9))) else (nmW (wi σ4 1 10 (1 : Int32)) fun σ10 => (f_X5_takesKind_57 σ10))) else (nmW (wi σ2 1 10 (0 : Int32)) fun σ11 => (f_X5_takesKind_57 σ11))
set_option maxRecDepth 20000 in
set_option maxHeartbeats 1000000 in
theorem b_X5_takesKind_57 {K : Kt}   (hO : Ok K cX5_takesKind RX5 1 rm_X5_takesKind) (hR : Rt K (some .boolean))    (σ : Wd)  : Cm K 1 (0, 0) (f_X5_takesKind_57   σ) σ 57 [(0, .ref (K.G.A 1))] [] := by
  refine r_aload_n (i := 0) hO rfl rfl dX5_takesKind_57 ?_
  refine k_X5_step hO a_238 rfl ⟨rfl, rfl, Nat.le_refl _, Nat.le_refl _⟩ dX5_takesKind_58 ?_
  intro _ σ1
  refine r_iconst hO ci_1 dX5_takesKind_61 ?_
  exact r_zret hO hR dX5_takesKind_62
set_option maxRecDepth 20000 in
set_option maxHeartbeats 1000000 in
theorem b_X5_takesKind {K : Kt}  (hO : Ok K cX5_takesKind RX5 1 rm_X5_takesKind) (hR : Rt K (some .boolean))   (σ : Wd) : Cm K 1 (0, 0) (f_X5_takesKind  σ) σ 0 [(0, .ref (K.G.A 1))] [] := by
  refine r_aload_n (i := 0) hO rfl rfl dX5_takesKind_0 ?_
  refine r_ldcS hO t_X5_175 dX5_takesKind_1 ?_
  refine k_X5_isWord hO (rfl : Nat.blt 6 13 = true) a_236 rfl ⟨rfl, rfl, Nat.le_refl _, Nat.le_refl _⟩ dX5_takesKind_3 ?_
  intro r1 σ2
  refine r_if_eq (tgt := 17) hO dX5_takesKind_6 (by decide) ?_ ?_
  · refine r_aload_n (i := 0) hO rfl rfl dX5_takesKind_17 ?_
    refine r_ldcS hO t_X5_177 dX5_takesKind_18 ?_
    refine k_X5_isWord hO (rfl : Nat.blt 7 13 = true) a_236 rfl ⟨rfl, rfl, Nat.le_refl _, Nat.le_refl _⟩ dX5_takesKind_20 ?_
    intro r3 σ4
    refine r_if_eq (tgt := 34) hO dX5_takesKind_23 (by decide) ?_ ?_
    · refine r_aload_n (i := 0) hO rfl rfl dX5_takesKind_34 ?_
      refine r_ldcS hO t_X5_179 dX5_takesKind_35 ?_
      refine k_X5_isWord hO (rfl : Nat.blt 8 13 = true) a_236 rfl ⟨rfl, rfl, Nat.le_refl _, Nat.le_refl _⟩ dX5_takesKind_37 ?_
      intro r5 σ6
      refine r_if_eq (tgt := 51) hO dX5_takesKind_40 (by decide) ?_ ?_
      · refine r_aload_n (i := 0) hO rfl rfl dX5_takesKind_51 ?_
        refine r_iconst hO ci_1 dX5_takesKind_52 ?_
        refine k_X5_fails hO a_237 rfl ⟨rfl, rfl, Nat.le_refl _, Nat.le_refl _⟩ dX5_takesKind_53 ?_
        intro r7 σ8
        exact r_zret hO hR dX5_takesKind_56
      · refine r_aload_n (i := 0) hO rfl rfl dX5_takesKind_43 ?_
        refine r_iconst hO ci_2 dX5_takesKind_44 ?_
        refine pX5_44 hO dX5_takesKind_45 ?_
        refine r_nmW fun σ9 => ?_
        refine r_goto (tgt := 57) hO dX5_takesKind_48 (by decide) ?_
        exact r_jmp (b_X5_takesKind_57 hO hR σ9) (lsub_c rfl lsub_n)
    · refine r_aload_n (i := 0) hO rfl rfl dX5_takesKind_26 ?_
      refine r_iconst hO ci_1 dX5_takesKind_27 ?_
      refine pX5_44 hO dX5_takesKind_28 ?_
      refine r_nmW fun σ10 => ?_
      refine r_goto (tgt := 57) hO dX5_takesKind_31 (by decide) ?_
      exact r_jmp (b_X5_takesKind_57 hO hR σ10) (lsub_c rfl lsub_n)
  · refine r_aload_n (i := 0) hO rfl rfl dX5_takesKind_9 ?_
    refine r_iconst hO ci_0 dX5_takesKind_10 ?_
    refine pX5_44 hO dX5_takesKind_11 ?_
    refine r_nmW fun σ11 => ?_
    refine r_goto (tgt := 57) hO dX5_takesKind_14 (by decide) ?_
    exact r_jmp (b_X5_takesKind_57 hO hR σ11) (lsub_c rfl lsub_n)
theorem c_X5_takesKind {l : Launch} {G : Gh}    (σ : Wd) : Con l G yX5_takesKind cX5_takesKind 1 (some .boolean) 6 128 [.ref (G.A 1)] σ (f_X5_takesKind  σ) := Con.of (plainFor_of_name (by decide)) rfl (Nat.le_of_ble_eq_true rfl) (fun K hl hG hO hR => by subst hl; subst hG; exact b_X5_takesKind hO hR   σ)
theorem cal_X5_takesKind : CalV yX5_takesKind cX5_takesKind 1 (some .boolean) 0 := ⟨a_259, a_260, a_261, a_217, by decide, by decide, by decide +kernel⟩
theorem k_X5_takesKind {K : Kt} {nL : Nat} {cs : Nat × Nat} {σ : Wd} {pc : Nat} {lv : List (Nat × Value)} {st : List Value} {cc : ByteArray} {own : String} {rm : Room} {index : Nat} {g : Int32 → Wd → Option (Int32 × Wd)}  (hO : Ok K cc own nL rm)  (hl : Cond.methodLink own index yX5_takesKind ∈ gtb) (hcat : Nat.ble ((st.map fun v => v.category).sum) 8 = true) (hR : RoomOk rm cs 6 128 1) (d : decode cc pc = .ok (.invokevirtual index, 3)) (kk : ∀ (r : Int32) (σ : Wd), Cm K nL cs (g r σ) σ (pc + 3) lv (.int r :: st)) : Cm K nL cs (bd (f_X5_takesKind  σ) g) σ pc lv (.ref (K.G.A 1) :: st) := r_cVi hO (c_X5_takesKind   σ) cal_X5_takesKind hl rfl (by decide) ent_X5 rfl rfl hcat hR d kk
/-! OrderSplit_Tape.takesFee -/
def f_X5_takesFee_62   (s1 : Int32) (σ : Wd) : Option (Int32 × Wd) := nmW (wi σ 1 10 s1) fun σ1 => gd (isb (1 : Int32)) (some ((1 : Int32), σ1))
def f_X5_takesFee_33   (x1 : Int32) (σ : Wd) : Option (Int32 × Wd) := bd (f_X5_takesWhole (0 : Int32) (9 : Int32) σ) fun r1 σ2 => if r1 = 0 then (gd (isb (0 : Int32)) (some ((0 : Int32), σ2))) else (if x1 = 0 then (f_X5_takesFee_62 (σ2.1 1 10) σ2) else (f_X5_takesFee_62 (-(σ2.1 1 10)) σ2))
def f_X5_takesFee_24   (s0 : Int32) (σ : Wd) : Option (Int32 × Wd) := if s0 = 0 then (f_X5_takesFee_33 s0 σ) else (bd (f_X5_step σ) fun _ σ1 => (f_X5_takesFee_33 s0 σ1))
def f_X5_takesFee  (σ : Wd) : Option (Int32 × Wd) := bd (f_X5_takesWord 10 σ) fun r1 σ2 => if r1 = 0 then (gd (isb (0 : Int32)) (some ((0 : Int32), σ2))) else (if (σ2.1 1 7) = (4 : Int32) then (f_X5_takesFee_24 (1 : Int32) σ2) else (f_X5_takesFee_24 (0 : Int32) σ2))
set_option maxRecDepth 20000 in
set_option maxHeartbeats 1000000 in
theorem b_X5_takesFee_62 {K : Kt}   (hO : Ok K cX5_takesFee RX5 2 rm_X5_takesFee) (hR : Rt K (some .boolean))   (s1 : Int32) (σ : Wd)  : Cm K 2 (0, 0) (f_X5_takesFee_62  s1 σ) σ 62 [] [.int s1, .ref (K.G.A 1)] := by
  refine pX5_44 hO dX5_takesFee_62 ?_
  refine r_nmW fun σ1 => ?_
  refine r_iconst hO ci_1 dX5_takesFee_65 ?_
  exact r_zret hO hR dX5_takesFee_66
set_option maxRecDepth 20000 in
set_option maxHeartbeats 1000000 in
theorem b_X5_takesFee_33 {K : Kt}   (hO : Ok K cX5_takesFee RX5 2 rm_X5_takesFee) (hR : Rt K (some .boolean))   (x1 : Int32) (σ : Wd)  : Cm K 2 (0, 0) (f_X5_takesFee_33  x1 σ) σ 33 [(0, .ref (K.G.A 1)), (1, .int x1)] [] := by
  refine r_aload_n (i := 0) hO rfl rfl dX5_takesFee_33 ?_
  refine r_iconst hO ci_0 dX5_takesFee_34 ?_
  refine r_bipush hO bi_9 dX5_takesFee_35 ?_
  refine k_X5_takesWhole hO a_246 rfl ⟨rfl, rfl, Nat.le_refl _, Nat.le_refl _⟩ dX5_takesFee_37 ?_
  intro r1 σ2
  refine r_if_ne (tgt := 45) hO dX5_takesFee_40 (by decide) ?_ ?_
  · refine r_iconst hO ci_0 dX5_takesFee_43 ?_
    exact r_zret hO hR dX5_takesFee_44
  · refine r_aload_n (i := 0) hO rfl rfl dX5_takesFee_45 ?_
    refine r_iload_n (i := 1) hO rfl rfl dX5_takesFee_46 ?_
    refine r_if_eq (tgt := 58) hO dX5_takesFee_47 (by decide) ?_ ?_
    · refine r_aload_n (i := 0) hO rfl rfl dX5_takesFee_58 ?_
      refine gX5_44 hO dX5_takesFee_59 ?_
      exact r_jmp (b_X5_takesFee_62 hO hR (σ2.1 1 10) σ2) lsub_n
    · refine r_aload_n (i := 0) hO rfl rfl dX5_takesFee_50 ?_
      refine gX5_44 hO dX5_takesFee_51 ?_
      refine r_ineg hO dX5_takesFee_54 ?_
      refine r_goto (tgt := 62) hO dX5_takesFee_55 (by decide) ?_
      exact r_jmp (b_X5_takesFee_62 hO hR (-(σ2.1 1 10)) σ2) lsub_n
set_option maxRecDepth 20000 in
set_option maxHeartbeats 1000000 in
theorem b_X5_takesFee_24 {K : Kt}   (hO : Ok K cX5_takesFee RX5 2 rm_X5_takesFee) (hR : Rt K (some .boolean))   (s0 : Int32) (σ : Wd)  : Cm K 2 (0, 0) (f_X5_takesFee_24  s0 σ) σ 24 [(0, .ref (K.G.A 1))] [.int s0] := by
  refine r_istore_n (i := 1) hO rfl rfl rfl dX5_takesFee_24 ?_
  refine r_iload_n (i := 1) hO rfl rfl dX5_takesFee_25 ?_
  refine r_if_eq (tgt := 33) hO dX5_takesFee_26 (by decide) ?_ ?_
  · exact r_jmp (b_X5_takesFee_33 hO hR s0 σ) (lsub_c rfl (lsub_c rfl lsub_n))
  · refine r_aload_n (i := 0) hO rfl rfl dX5_takesFee_29 ?_
    refine k_X5_step hO a_238 rfl ⟨rfl, rfl, Nat.le_refl _, Nat.le_refl _⟩ dX5_takesFee_30 ?_
    intro _ σ1
    exact r_jmp (b_X5_takesFee_33 hO hR s0 σ1) (lsub_c rfl (lsub_c rfl lsub_n))
set_option maxRecDepth 20000 in
set_option maxHeartbeats 1000000 in
theorem b_X5_takesFee {K : Kt}  (hO : Ok K cX5_takesFee RX5 2 rm_X5_takesFee) (hR : Rt K (some .boolean))   (σ : Wd) : Cm K 2 (0, 0) (f_X5_takesFee  σ) σ 0 [(0, .ref (K.G.A 1))] [] := by
  refine r_aload_n (i := 0) hO rfl rfl dX5_takesFee_0 ?_
  refine r_ldcS hO t_X5_181 dX5_takesFee_1 ?_
  refine k_X5_takesWord hO (rfl : Nat.blt 10 13 = true) a_245 rfl ⟨rfl, rfl, Nat.le_refl _, Nat.le_refl _⟩ dX5_takesFee_3 ?_
  intro r1 σ2
  refine r_if_ne (tgt := 11) hO dX5_takesFee_6 (by decide) ?_ ?_
  · refine r_iconst hO ci_0 dX5_takesFee_9 ?_
    exact r_zret hO hR dX5_takesFee_10
  · refine r_aload_n (i := 0) hO rfl rfl dX5_takesFee_11 ?_
    refine gX5_35 hO dX5_takesFee_12 ?_
    refine r_iconst hO ci_4 dX5_takesFee_15 ?_
    refine r_icmp_ne (tgt := 23) hO dX5_takesFee_16 (by decide) ?_ ?_
    · refine r_iconst hO ci_1 dX5_takesFee_19 ?_
      refine r_goto (tgt := 24) hO dX5_takesFee_20 (by decide) ?_
      exact r_jmp (b_X5_takesFee_24 hO hR (1 : Int32) σ2) (lsub_c rfl lsub_n)
    · refine r_iconst hO ci_0 dX5_takesFee_23 ?_
      exact r_jmp (b_X5_takesFee_24 hO hR (0 : Int32) σ2) (lsub_c rfl lsub_n)
theorem c_X5_takesFee {l : Launch} {G : Gh}    (σ : Wd) : Con l G yX5_takesFee cX5_takesFee 2 (some .boolean) 7 149 [.ref (G.A 1)] σ (f_X5_takesFee  σ) := Con.of (plainFor_of_name (by decide)) rfl (Nat.le_of_ble_eq_true rfl) (fun K hl hG hO hR => by subst hl; subst hG; exact b_X5_takesFee hO hR   σ)
theorem cal_X5_takesFee : CalV yX5_takesFee cX5_takesFee 2 (some .boolean) 0 := ⟨a_262, a_263, a_264, a_217, by decide, by decide, by decide +kernel⟩
theorem k_X5_takesFee {K : Kt} {nL : Nat} {cs : Nat × Nat} {σ : Wd} {pc : Nat} {lv : List (Nat × Value)} {st : List Value} {cc : ByteArray} {own : String} {rm : Room} {index : Nat} {g : Int32 → Wd → Option (Int32 × Wd)}  (hO : Ok K cc own nL rm)  (hl : Cond.methodLink own index yX5_takesFee ∈ gtb) (hcat : Nat.ble ((st.map fun v => v.category).sum) 8 = true) (hR : RoomOk rm cs 7 149 2) (d : decode cc pc = .ok (.invokevirtual index, 3)) (kk : ∀ (r : Int32) (σ : Wd), Cm K nL cs (g r σ) σ (pc + 3) lv (.int r :: st)) : Cm K nL cs (bd (f_X5_takesFee  σ) g) σ pc lv (.ref (K.G.A 1) :: st) := r_cVi hO (c_X5_takesFee   σ) cal_X5_takesFee hl rfl (by decide) ent_X5 rfl rfl hcat hR d kk
/-! OrderSplit_Tape.readVenue -/
def f_X5_readVenue_87 (m1 : Nat)   (σ : Wd) : Option (Int32 × Wd) := gd (isb (0 : Int32)) (some ((0 : Int32), σ))
def f_X5_readVenue_138 (m1 : Nat)   (σ : Wd) : Option (Int32 × Wd) := gd (isb (0 : Int32)) (some ((0 : Int32), σ))
def f_X5_readVenue_169 (m1 : Nat)   (σ : Wd) : Option (Int32 × Wd) := gd (isb (0 : Int32)) (some ((0 : Int32), σ))
def f_X5_readVenue (m1 : Nat) (a2 : Int32) (σ : Wd) : Option (Int32 × Wd) := bd (f_X5_isName σ) fun r1 σ2 => if r1 = 0 then (bd (f_X5_fails (1 : Int32) σ2) fun r3 σ4 => gd (isb r3) (some (r3, σ4))) else (bd (f_X5_venueNamed (σ2.1 1 9) (σ2.1 m1 3) σ2) fun r5 σ6 => if r5 = (-1 : Int32) then (gd (inb a2 5) (nmW (wi σ6 3 (ix a2) (σ6.1 1 9)) fun σ7 => bd (f_X5_step σ7) fun _ σ8 => bd (f_X5_takesKind σ8) fun r9 σ10 => if r9 = 0 then (gd (isb (0 : Int32)) (some ((0 : Int32), σ10))) else (gd (inb a2 5) (nmW (wi σ10 (m1 + 1) (ix a2) (σ10.1 1 10)) fun σ11 => bd (f_X5_takesWord 9 σ11) fun r12 σ13 => if r12 = 0 then (f_X5_readVenue_87 m1 σ13) else (bd (f_X5_takesWhole (1 : Int32) (20 : Int32) σ13) fun r14 σ15 => if r14 = 0 then (f_X5_readVenue_87 m1 σ15) else (gd (inb a2 5) (nmW (wi σ15 (m1 + 2) (ix a2) (σ15.1 1 10)) fun σ16 => bd (f_X5_takesFee σ16) fun r17 σ18 => if r17 = 0 then (gd (isb (0 : Int32)) (some ((0 : Int32), σ18))) else (gd (inb a2 5) (nmW (wi σ18 (m1 + 3) (ix a2) (σ18.1 1 10)) fun σ19 => bd (f_X5_takesWord 11 σ19) fun r20 σ21 => if r20 = 0 then (f_X5_readVenue_138 m1 σ21) else (bd (f_X5_takesWhole (0 : Int32) (300 : Int32) σ21) fun r22 σ23 => if r22 = 0 then (f_X5_readVenue_138 m1 σ23) else (gd (inb a2 5) (nmW (wi σ23 (m1 + 4) (ix a2) (σ23.1 1 10)) fun σ24 => bd (f_X5_takesWord 12 σ24) fun r25 σ26 => if r25 = 0 then (f_X5_readVenue_169 m1 σ26) else (bd (f_X5_takesWhole (1 : Int32) (9 : Int32) σ26) fun r27 σ28 => if r27 = 0 then (f_X5_readVenue_169 m1 σ28) else (gd (inb a2 5) (nmW (wi σ28 (m1 + 5) (ix a2) (σ28.1 1 10)) fun σ29 => nmW (wi σ29 m1 3 ((σ29.1 m1 3) + (1 : Int32))) fun σ30 => gd (isb (1 : Int32)) (some ((1 : Int32), σ30))))))))))))))))) else (bd (f_X5_fails (3 : Int32) σ6) fun r31 σ32 => gd (isb r31) (some (r31, σ32))))
set_option maxRecDepth 20000 in
set_option maxHeartbeats 1000000 in
theorem b_X5_readVenue_87 {K : Kt} {m1 : Nat}  (hO : Ok K cX5_readVenue RX5 3 rm_X5_readVenue) (hR : Rt K (some .boolean)) (hm1 : isM m1)   (σ : Wd)  : Cm K 3 (0, 0) (f_X5_readVenue_87 m1  σ) σ 87 [] [] := by
  refine r_iconst hO ci_0 dX5_readVenue_87 ?_
  exact r_zret hO hR dX5_readVenue_88
set_option maxRecDepth 20000 in
set_option maxHeartbeats 1000000 in
theorem b_X5_readVenue_138 {K : Kt} {m1 : Nat}  (hO : Ok K cX5_readVenue RX5 3 rm_X5_readVenue) (hR : Rt K (some .boolean)) (hm1 : isM m1)   (σ : Wd)  : Cm K 3 (0, 0) (f_X5_readVenue_138 m1  σ) σ 138 [] [] := by
  refine r_iconst hO ci_0 dX5_readVenue_138 ?_
  exact r_zret hO hR dX5_readVenue_139
set_option maxRecDepth 20000 in
set_option maxHeartbeats 1000000 in
theorem b_X5_readVenue_169 {K : Kt} {m1 : Nat}  (hO : Ok K cX5_readVenue RX5 3 rm_X5_readVenue) (hR : Rt K (some .boolean)) (hm1 : isM m1)   (σ : Wd)  : Cm K 3 (0, 0) (f_X5_readVenue_169 m1  σ) σ 169 [] [] := by
  refine r_iconst hO ci_0 dX5_readVenue_169 ?_
  exact r_zret hO hR dX5_readVenue_170
set_option maxRecDepth 20000 in
set_option maxHeartbeats 1000000 in
theorem b_X5_readVenue {K : Kt} {m1 : Nat} (hO : Ok K cX5_readVenue RX5 3 rm_X5_readVenue) (hR : Rt K (some .boolean)) (hm1 : isM m1) (a2 : Int32) (σ : Wd) : Cm K 3 (0, 0) (f_X5_readVenue m1 a2 σ) σ 0 [(0, .ref (K.G.A 1)), (1, .ref (K.G.A m1)), (2, .int a2)] [] := by
  refine r_aload_n (i := 0) hO rfl rfl dX5_readVenue_0 ?_
  refine k_X5_isName hO a_265 rfl ⟨rfl, rfl, Nat.le_refl _, Nat.le_refl _⟩ dX5_readVenue_1 ?_
  intro r1 σ2
  refine r_if_ne (tgt := 13) hO dX5_readVenue_4 (by decide) ?_ ?_
  · refine r_aload_n (i := 0) hO rfl rfl dX5_readVenue_7 ?_
    refine r_iconst hO ci_1 dX5_readVenue_8 ?_
    refine k_X5_fails hO a_237 rfl ⟨rfl, rfl, Nat.le_refl _, Nat.le_refl _⟩ dX5_readVenue_9 ?_
    intro r3 σ4
    exact r_zret hO hR dX5_readVenue_12
  · refine r_aload_n (i := 0) hO rfl rfl dX5_readVenue_13 ?_
    refine r_aload_n (i := 0) hO rfl rfl dX5_readVenue_14 ?_
    refine gX5_41 hO dX5_readVenue_15 ?_
    refine r_aload_n (i := 1) hO rfl rfl dX5_readVenue_18 ?_
    refine gX5_59 hO hm1 dX5_readVenue_19 ?_
    refine k_X5_venueNamed hO a_266 rfl ⟨rfl, rfl, Nat.le_refl _, Nat.le_refl _⟩ dX5_readVenue_22 ?_
    intro r5 σ6
    refine r_iconst hO ci_m1 dX5_readVenue_25 ?_
    refine r_icmp_eq (tgt := 35) hO dX5_readVenue_26 (by decide) ?_ ?_
    · refine r_aload_n (i := 0) hO rfl rfl dX5_readVenue_35 ?_
      refine gX5_25 hO dX5_readVenue_36 ?_
      refine r_iload_n (i := 2) hO rfl rfl dX5_readVenue_39 ?_
      refine r_aload_n (i := 0) hO rfl rfl dX5_readVenue_40 ?_
      refine gX5_41 hO dX5_readVenue_41 ?_
      refine r_iast hO s_3 dX5_readVenue_44 ?_
      refine r_nmW fun σ7 => ?_
      refine r_aload_n (i := 0) hO rfl rfl dX5_readVenue_45 ?_
      refine k_X5_step hO a_238 rfl ⟨rfl, rfl, Nat.le_refl _, Nat.le_refl _⟩ dX5_readVenue_46 ?_
      intro _ σ8
      refine r_aload_n (i := 0) hO rfl rfl dX5_readVenue_49 ?_
      refine k_X5_takesKind hO a_267 rfl ⟨rfl, rfl, Nat.le_refl _, Nat.le_refl _⟩ dX5_readVenue_50 ?_
      intro r9 σ10
      refine r_if_ne (tgt := 58) hO dX5_readVenue_53 (by decide) ?_ ?_
      · refine r_iconst hO ci_0 dX5_readVenue_56 ?_
        exact r_zret hO hR dX5_readVenue_57
      · refine r_aload_n (i := 1) hO rfl rfl dX5_readVenue_58 ?_
        refine gX5_127 hO hm1 dX5_readVenue_59 ?_
        refine r_iload_n (i := 2) hO rfl rfl dX5_readVenue_62 ?_
        refine r_aload_n (i := 0) hO rfl rfl dX5_readVenue_63 ?_
        refine gX5_44 hO dX5_readVenue_64 ?_
        refine r_iast hO (sM_1 hm1) dX5_readVenue_67 ?_
        refine r_nmW fun σ11 => ?_
        refine r_aload_n (i := 0) hO rfl rfl dX5_readVenue_68 ?_
        refine r_ldcS hO t_X5_130 dX5_readVenue_69 ?_
        refine k_X5_takesWord hO (rfl : Nat.blt 9 13 = true) a_245 rfl ⟨rfl, rfl, Nat.le_refl _, Nat.le_refl _⟩ dX5_readVenue_71 ?_
        intro r12 σ13
        refine r_if_eq (tgt := 87) hO dX5_readVenue_74 (by decide) ?_ ?_
        · exact r_jmp (b_X5_readVenue_87 hO hR hm1 σ13) lsub_n
        · refine r_aload_n (i := 0) hO rfl rfl dX5_readVenue_77 ?_
          refine r_iconst hO ci_1 dX5_readVenue_78 ?_
          refine r_bipush hO bi_20 dX5_readVenue_79 ?_
          refine k_X5_takesWhole hO a_246 rfl ⟨rfl, rfl, Nat.le_refl _, Nat.le_refl _⟩ dX5_readVenue_81 ?_
          intro r14 σ15
          refine r_if_ne (tgt := 89) hO dX5_readVenue_84 (by decide) ?_ ?_
          · exact r_jmp (b_X5_readVenue_87 hO hR hm1 σ15) lsub_n
          · refine r_aload_n (i := 1) hO rfl rfl dX5_readVenue_89 ?_
            refine gX5_132 hO hm1 dX5_readVenue_90 ?_
            refine r_iload_n (i := 2) hO rfl rfl dX5_readVenue_93 ?_
            refine r_aload_n (i := 0) hO rfl rfl dX5_readVenue_94 ?_
            refine gX5_44 hO dX5_readVenue_95 ?_
            refine r_iast hO (sM_2 hm1) dX5_readVenue_98 ?_
            refine r_nmW fun σ16 => ?_
            refine r_aload_n (i := 0) hO rfl rfl dX5_readVenue_99 ?_
            refine k_X5_takesFee hO a_268 rfl ⟨rfl, rfl, Nat.le_refl _, Nat.le_refl _⟩ dX5_readVenue_100 ?_
            intro r17 σ18
            refine r_if_ne (tgt := 108) hO dX5_readVenue_103 (by decide) ?_ ?_
            · refine r_iconst hO ci_0 dX5_readVenue_106 ?_
              exact r_zret hO hR dX5_readVenue_107
            · refine r_aload_n (i := 1) hO rfl rfl dX5_readVenue_108 ?_
              refine gX5_138 hO hm1 dX5_readVenue_109 ?_
              refine r_iload_n (i := 2) hO rfl rfl dX5_readVenue_112 ?_
              refine r_aload_n (i := 0) hO rfl rfl dX5_readVenue_113 ?_
              refine gX5_44 hO dX5_readVenue_114 ?_
              refine r_iast hO (sM_3 hm1) dX5_readVenue_117 ?_
              refine r_nmW fun σ19 => ?_
              refine r_aload_n (i := 0) hO rfl rfl dX5_readVenue_118 ?_
              refine r_ldcS hO t_X5_141 dX5_readVenue_119 ?_
              refine k_X5_takesWord hO (rfl : Nat.blt 11 13 = true) a_245 rfl ⟨rfl, rfl, Nat.le_refl _, Nat.le_refl _⟩ dX5_readVenue_121 ?_
              intro r20 σ21
              refine r_if_eq (tgt := 138) hO dX5_readVenue_124 (by decide) ?_ ?_
              · exact r_jmp (b_X5_readVenue_138 hO hR hm1 σ21) lsub_n
              · refine r_aload_n (i := 0) hO rfl rfl dX5_readVenue_127 ?_
                refine r_iconst hO ci_0 dX5_readVenue_128 ?_
                refine r_sipush hO si_300 dX5_readVenue_129 ?_
                refine k_X5_takesWhole hO a_246 rfl ⟨rfl, rfl, Nat.le_refl _, Nat.le_refl _⟩ dX5_readVenue_132 ?_
                intro r22 σ23
                refine r_if_ne (tgt := 140) hO dX5_readVenue_135 (by decide) ?_ ?_
                · exact r_jmp (b_X5_readVenue_138 hO hR hm1 σ23) lsub_n
                · refine r_aload_n (i := 1) hO rfl rfl dX5_readVenue_140 ?_
                  refine gX5_143 hO hm1 dX5_readVenue_141 ?_
                  refine r_iload_n (i := 2) hO rfl rfl dX5_readVenue_144 ?_
                  refine r_aload_n (i := 0) hO rfl rfl dX5_readVenue_145 ?_
                  refine gX5_44 hO dX5_readVenue_146 ?_
                  refine r_iast hO (sM_4 hm1) dX5_readVenue_149 ?_
                  refine r_nmW fun σ24 => ?_
                  refine r_aload_n (i := 0) hO rfl rfl dX5_readVenue_150 ?_
                  refine r_ldcS hO t_X5_146 dX5_readVenue_151 ?_
                  refine k_X5_takesWord hO (rfl : Nat.blt 12 13 = true) a_245 rfl ⟨rfl, rfl, Nat.le_refl _, Nat.le_refl _⟩ dX5_readVenue_153 ?_
                  intro r25 σ26
                  refine r_if_eq (tgt := 169) hO dX5_readVenue_156 (by decide) ?_ ?_
                  · exact r_jmp (b_X5_readVenue_169 hO hR hm1 σ26) lsub_n
                  · refine r_aload_n (i := 0) hO rfl rfl dX5_readVenue_159 ?_
                    refine r_iconst hO ci_1 dX5_readVenue_160 ?_
                    refine r_bipush hO bi_9 dX5_readVenue_161 ?_
                    refine k_X5_takesWhole hO a_246 rfl ⟨rfl, rfl, Nat.le_refl _, Nat.le_refl _⟩ dX5_readVenue_163 ?_
                    intro r27 σ28
                    refine r_if_ne (tgt := 171) hO dX5_readVenue_166 (by decide) ?_ ?_
                    · exact r_jmp (b_X5_readVenue_169 hO hR hm1 σ28) lsub_n
                    · refine r_aload_n (i := 1) hO rfl rfl dX5_readVenue_171 ?_
                      refine gX5_148 hO hm1 dX5_readVenue_172 ?_
                      refine r_iload_n (i := 2) hO rfl rfl dX5_readVenue_175 ?_
                      refine r_aload_n (i := 0) hO rfl rfl dX5_readVenue_176 ?_
                      refine gX5_44 hO dX5_readVenue_177 ?_
                      refine r_iast hO (sM_5 hm1) dX5_readVenue_180 ?_
                      refine r_nmW fun σ29 => ?_
                      refine r_aload_n (i := 1) hO rfl rfl dX5_readVenue_181 ?_
                      refine r_dup hO rfl dX5_readVenue_182 ?_
                      refine gX5_59 hO hm1 dX5_readVenue_183 ?_
                      refine r_iconst hO ci_1 dX5_readVenue_186 ?_
                      refine r_iadd hO dX5_readVenue_187 ?_
                      refine pX5_59 hO hm1 dX5_readVenue_188 ?_
                      refine r_nmW fun σ30 => ?_
                      refine r_iconst hO ci_1 dX5_readVenue_191 ?_
                      exact r_zret hO hR dX5_readVenue_192
    · refine r_aload_n (i := 0) hO rfl rfl dX5_readVenue_29 ?_
      refine r_iconst hO ci_3 dX5_readVenue_30 ?_
      refine k_X5_fails hO a_237 rfl ⟨rfl, rfl, Nat.le_refl _, Nat.le_refl _⟩ dX5_readVenue_31 ?_
      intro r31 σ32
      exact r_zret hO hR dX5_readVenue_34
theorem c_X5_readVenue {l : Launch} {G : Gh} {m1 : Nat} (hm1 : isM m1) (a2 : Int32) (σ : Wd) : Con l G yX5_readVenue cX5_readVenue 3 (some .boolean) 8 170 [.ref (G.A 1), .ref (G.A m1), .int a2] σ (f_X5_readVenue m1 a2 σ) := Con.of (plainFor_of_name (by decide)) rfl (Nat.le_of_ble_eq_true rfl) (fun K hl hG hO hR => by subst hl; subst hG; exact b_X5_readVenue hO hR hm1 a2 σ)
theorem cal_X5_readVenue : CalV yX5_readVenue cX5_readVenue 3 (some .boolean) 2 := ⟨a_269, a_270, a_271, a_217, by decide, by decide, by decide +kernel⟩
theorem k_X5_readVenue {K : Kt} {nL : Nat} {cs : Nat × Nat} {σ : Wd} {pc : Nat} {lv : List (Nat × Value)} {st : List Value} {cc : ByteArray} {own : String} {rm : Room} {index : Nat} {g : Int32 → Wd → Option (Int32 × Wd)} {m1 : Nat} {a2 : Int32} (hO : Ok K cc own nL rm) (hm1 : isM m1) (hl : Cond.methodLink own index yX5_readVenue ∈ gtb) (hcat : Nat.ble ((st.map fun v => v.category).sum) 8 = true) (hR : RoomOk rm cs 8 170 3) (d : decode cc pc = .ok (.invokevirtual index, 3)) (kk : ∀ (r : Int32) (σ : Wd), Cm K nL cs (g r σ) σ (pc + 3) lv (.int r :: st)) : Cm K nL cs (bd (f_X5_readVenue m1 a2 σ) g) σ pc lv (.int a2 :: .ref (K.G.A m1) :: .ref (K.G.A 1) :: st) := r_cVi hO (c_X5_readVenue hm1 a2 σ) cal_X5_readVenue hl rfl (by decide) ent_X5 rfl rfl hcat hR d kk
/-! OrderSplit_Tape.findsVenue -/
def f_X5_findsVenue_50 (m1 : Nat)  (s0 : Int32) (σ : Wd) : Option (Int32 × Wd) := gd (isb s0) (some (s0, σ))
def f_X5_findsVenue_45 (m1 : Nat)   (σ : Wd) : Option (Int32 × Wd) := (f_X5_findsVenue_50 m1 (1 : Int32) σ)
def f_X5_findsVenue (m1 : Nat) (σ : Wd) : Option (Int32 × Wd) := bd (f_X5_isName σ) fun r1 σ2 => if r1 = 0 then (bd (f_X5_fails (1 : Int32) σ2) fun r3 σ4 => gd (isb r3) (some (r3, σ4))) else (bd (f_X5_venueNamed (σ2.1 1 9) (σ2.1 m1 3) σ2) fun r5 σ6 => nmW (wi σ6 1 10 r5) fun σ7 => if (σ7.1 1 10) = (-1 : Int32) then (bd (f_X5_fails (2 : Int32) σ7) fun r8 σ9 => if r8 = 0 then (f_X5_findsVenue_50 m1 (0 : Int32) σ9) else (f_X5_findsVenue_45 m1 σ9)) else (f_X5_findsVenue_45 m1 σ7))
set_option maxRecDepth 20000 in
set_option maxHeartbeats 1000000 in
theorem b_X5_findsVenue_50 {K : Kt} {m1 : Nat}  (hO : Ok K cX5_findsVenue RX5 2 rm_X5_findsVenue) (hR : Rt K (some .boolean)) (hm1 : isM m1)  (s0 : Int32) (σ : Wd)  : Cm K 2 (0, 0) (f_X5_findsVenue_50 m1 s0 σ) σ 50 [] [.int s0] := by
  exact r_zret hO hR dX5_findsVenue_50
set_option maxRecDepth 20000 in
set_option maxHeartbeats 1000000 in
theorem b_X5_findsVenue_45 {K : Kt} {m1 : Nat}  (hO : Ok K cX5_findsVenue RX5 2 rm_X5_findsVenue) (hR : Rt K (some .boolean)) (hm1 : isM m1)   (σ : Wd)  : Cm K 2 (0, 0) (f_X5_findsVenue_45 m1  σ) σ 45 [] [] := by
  refine r_iconst hO ci_1 dX5_findsVenue_45 ?_
  refine r_goto (tgt := 50) hO dX5_findsVenue_46 (by decide) ?_
  exact r_jmp (b_X5_findsVenue_50 hO hR hm1 (1 : Int32) σ) lsub_n
set_option maxRecDepth 20000 in
set_option maxHeartbeats 1000000 in
theorem b_X5_findsVenue {K : Kt} {m1 : Nat} (hO : Ok K cX5_findsVenue RX5 2 rm_X5_findsVenue) (hR : Rt K (some .boolean)) (hm1 : isM m1)  (σ : Wd) : Cm K 2 (0, 0) (f_X5_findsVenue m1 σ) σ 0 [(0, .ref (K.G.A 1)), (1, .ref (K.G.A m1))] [] := by
  refine r_aload_n (i := 0) hO rfl rfl dX5_findsVenue_0 ?_
  refine k_X5_isName hO a_265 rfl ⟨rfl, rfl, Nat.le_refl _, Nat.le_refl _⟩ dX5_findsVenue_1 ?_
  intro r1 σ2
  refine r_if_ne (tgt := 13) hO dX5_findsVenue_4 (by decide) ?_ ?_
  · refine r_aload_n (i := 0) hO rfl rfl dX5_findsVenue_7 ?_
    refine r_iconst hO ci_1 dX5_findsVenue_8 ?_
    refine k_X5_fails hO a_237 rfl ⟨rfl, rfl, Nat.le_refl _, Nat.le_refl _⟩ dX5_findsVenue_9 ?_
    intro r3 σ4
    exact r_zret hO hR dX5_findsVenue_12
  · refine r_aload_n (i := 0) hO rfl rfl dX5_findsVenue_13 ?_
    refine r_aload_n (i := 0) hO rfl rfl dX5_findsVenue_14 ?_
    refine r_aload_n (i := 0) hO rfl rfl dX5_findsVenue_15 ?_
    refine gX5_41 hO dX5_findsVenue_16 ?_
    refine r_aload_n (i := 1) hO rfl rfl dX5_findsVenue_19 ?_
    refine gX5_59 hO hm1 dX5_findsVenue_20 ?_
    refine k_X5_venueNamed hO a_266 rfl ⟨rfl, rfl, Nat.le_refl _, Nat.le_refl _⟩ dX5_findsVenue_23 ?_
    intro r5 σ6
    refine pX5_44 hO dX5_findsVenue_26 ?_
    refine r_nmW fun σ7 => ?_
    refine r_aload_n (i := 0) hO rfl rfl dX5_findsVenue_29 ?_
    refine gX5_44 hO dX5_findsVenue_30 ?_
    refine r_iconst hO ci_m1 dX5_findsVenue_33 ?_
    refine r_icmp_ne (tgt := 45) hO dX5_findsVenue_34 (by decide) ?_ ?_
    · refine r_aload_n (i := 0) hO rfl rfl dX5_findsVenue_37 ?_
      refine r_iconst hO ci_2 dX5_findsVenue_38 ?_
      refine k_X5_fails hO a_237 rfl ⟨rfl, rfl, Nat.le_refl _, Nat.le_refl _⟩ dX5_findsVenue_39 ?_
      intro r8 σ9
      refine r_if_eq (tgt := 49) hO dX5_findsVenue_42 (by decide) ?_ ?_
      · refine r_iconst hO ci_0 dX5_findsVenue_49 ?_
        exact r_jmp (b_X5_findsVenue_50 hO hR hm1 (0 : Int32) σ9) lsub_n
      · exact r_jmp (b_X5_findsVenue_45 hO hR hm1 σ9) lsub_n
    · exact r_jmp (b_X5_findsVenue_45 hO hR hm1 σ7) lsub_n
theorem c_X5_findsVenue {l : Launch} {G : Gh} {m1 : Nat} (hm1 : isM m1)  (σ : Wd) : Con l G yX5_findsVenue cX5_findsVenue 2 (some .boolean) 7 148 [.ref (G.A 1), .ref (G.A m1)] σ (f_X5_findsVenue m1 σ) := Con.of (plainFor_of_name (by decide)) rfl (Nat.le_of_ble_eq_true rfl) (fun K hl hG hO hR => by subst hl; subst hG; exact b_X5_findsVenue hO hR hm1  σ)
theorem cal_X5_findsVenue : CalV yX5_findsVenue cX5_findsVenue 2 (some .boolean) 1 := ⟨a_272, a_273, a_274, a_217, by decide, by decide, by decide +kernel⟩
theorem k_X5_findsVenue {K : Kt} {nL : Nat} {cs : Nat × Nat} {σ : Wd} {pc : Nat} {lv : List (Nat × Value)} {st : List Value} {cc : ByteArray} {own : String} {rm : Room} {index : Nat} {g : Int32 → Wd → Option (Int32 × Wd)} {m1 : Nat} (hO : Ok K cc own nL rm) (hm1 : isM m1) (hl : Cond.methodLink own index yX5_findsVenue ∈ gtb) (hcat : Nat.ble ((st.map fun v => v.category).sum) 8 = true) (hR : RoomOk rm cs 7 148 2) (d : decode cc pc = .ok (.invokevirtual index, 3)) (kk : ∀ (r : Int32) (σ : Wd), Cm K nL cs (g r σ) σ (pc + 3) lv (.int r :: st)) : Cm K nL cs (bd (f_X5_findsVenue m1 σ) g) σ pc lv (.ref (K.G.A m1) :: .ref (K.G.A 1) :: st) := r_cVi hO (c_X5_findsVenue hm1  σ) cal_X5_findsVenue hl rfl (by decide) ent_X5 rfl rfl hcat hR d kk
/-! OrderSplit_Tape.readLevel -/
def f_X5_readLevel_58 (m1 : Nat)  (x2 : Int32) (x3 : Int32) (s0 : Int32) (σ : Wd) : Option (Int32 × Wd) := bd (f_X5_takesWhole (s0 + (1 : Int32)) (999 : Int32) σ) fun r1 σ2 => if r1 = 0 then (gd (isb (0 : Int32)) (some ((0 : Int32), σ2))) else (bd (f_X6_slot x2 x3 σ2) fun r3 σ4 => gd (inb r3 30) (nmW (wi σ4 (m1 + 8) (ix r3) (σ4.1 1 10)) fun σ5 => bd (f_X5_takesWhole (1 : Int32) (99 : Int32) σ5) fun r6 σ7 => if r6 = 0 then (gd (isb (0 : Int32)) (some ((0 : Int32), σ7))) else (bd (f_X6_slot x2 x3 σ7) fun r8 σ9 => gd (inb r8 30) (nmW (wi σ9 (m1 + 9) (ix r8) (σ9.1 1 10)) fun σ10 => gd (inb x2 5) (gd (inb x2 5) (nmW (wi σ10 (m1 + 6) (ix x2) ((σ10.1 (m1 + 6) (ix x2)) + (1 : Int32))) fun σ11 => gd (isb (1 : Int32)) (some ((1 : Int32), σ11))))))))
def f_X5_readLevel (m1 : Nat) (σ : Wd) : Option (Int32 × Wd) := bd (f_X5_findsVenue m1 σ) fun r1 σ2 => if r1 = 0 then (gd (isb (0 : Int32)) (some ((0 : Int32), σ2))) else (gd (inb (σ2.1 1 10) 5) (if (σ2.1 (m1 + 6) (ix (σ2.1 1 10))) < (6 : Int32) then (bd (f_X5_step σ2) fun _ σ3 => if (σ2.1 (m1 + 6) (ix (σ2.1 1 10))) ≤ 0 then (f_X5_readLevel_58 m1 (σ2.1 1 10) (σ2.1 (m1 + 6) (ix (σ2.1 1 10))) (0 : Int32) σ3) else (bd (f_X6_slot (σ2.1 1 10) ((σ2.1 (m1 + 6) (ix (σ2.1 1 10))) - (1 : Int32)) σ3) fun r4 σ5 => gd (inb r4 30) ((f_X5_readLevel_58 m1 (σ2.1 1 10) (σ2.1 (m1 + 6) (ix (σ2.1 1 10))) (σ5.1 (m1 + 8) (ix r4)) σ5)))) else (bd (f_X5_fails (5 : Int32) σ2) fun r6 σ7 => gd (isb r6) (some (r6, σ7)))))
set_option maxRecDepth 20000 in
set_option maxHeartbeats 1000000 in
theorem b_X5_readLevel_58 {K : Kt} {m1 : Nat}  (hO : Ok K cX5_readLevel RX5 5 rm_X5_readLevel) (hR : Rt K (some .boolean)) (hm1 : isM m1)  (x2 : Int32) (x3 : Int32) (s0 : Int32) (σ : Wd)  : Cm K 5 (0, 0) (f_X5_readLevel_58 m1 x2 x3 s0 σ) σ 58 [(0, .ref (K.G.A 1)), (1, .ref (K.G.A m1)), (2, .int x2), (3, .int x3)] [.int s0] := by
  refine r_istore hO rfl rfl dX5_readLevel_58 ?_
  refine r_aload_n (i := 0) hO rfl rfl dX5_readLevel_60 ?_
  refine r_iload hO (d := dX5_readLevel_61) rfl ?_
  refine r_iconst hO ci_1 dX5_readLevel_63 ?_
  refine r_iadd hO dX5_readLevel_64 ?_
  refine r_sipush hO si_999 dX5_readLevel_65 ?_
  refine k_X5_takesWhole hO a_246 rfl ⟨rfl, rfl, Nat.le_refl _, Nat.le_refl _⟩ dX5_readLevel_68 ?_
  intro r1 σ2
  refine r_if_ne (tgt := 76) hO dX5_readLevel_71 (by decide) ?_ ?_
  · refine r_iconst hO ci_0 dX5_readLevel_74 ?_
    exact r_zret hO hR dX5_readLevel_75
  · refine r_aload_n (i := 1) hO rfl rfl dX5_readLevel_76 ?_
    refine gX5_157 hO hm1 dX5_readLevel_77 ?_
    refine r_iload_n (i := 2) hO rfl rfl dX5_readLevel_80 ?_
    refine r_iload_n (i := 3) hO rfl rfl dX5_readLevel_81 ?_
    refine kN_X6_slot hO a_276 rfl ⟨rfl, rfl, Nat.le_refl _, Nat.le_refl _⟩ dX5_readLevel_82 ?_
    intro r3 σ4
    refine r_aload_n (i := 0) hO rfl rfl dX5_readLevel_85 ?_
    refine gX5_44 hO dX5_readLevel_86 ?_
    refine r_iast hO (sM_8 hm1) dX5_readLevel_89 ?_
    refine r_nmW fun σ5 => ?_
    refine r_aload_n (i := 0) hO rfl rfl dX5_readLevel_90 ?_
    refine r_iconst hO ci_1 dX5_readLevel_91 ?_
    refine r_bipush hO bi_99 dX5_readLevel_92 ?_
    refine k_X5_takesWhole hO a_246 rfl ⟨rfl, rfl, Nat.le_refl _, Nat.le_refl _⟩ dX5_readLevel_94 ?_
    intro r6 σ7
    refine r_if_ne (tgt := 102) hO dX5_readLevel_97 (by decide) ?_ ?_
    · refine r_iconst hO ci_0 dX5_readLevel_100 ?_
      exact r_zret hO hR dX5_readLevel_101
    · refine r_aload_n (i := 1) hO rfl rfl dX5_readLevel_102 ?_
      refine gX5_163 hO hm1 dX5_readLevel_103 ?_
      refine r_iload_n (i := 2) hO rfl rfl dX5_readLevel_106 ?_
      refine r_iload_n (i := 3) hO rfl rfl dX5_readLevel_107 ?_
      refine kN_X6_slot hO a_276 rfl ⟨rfl, rfl, Nat.le_refl _, Nat.le_refl _⟩ dX5_readLevel_108 ?_
      intro r8 σ9
      refine r_aload_n (i := 0) hO rfl rfl dX5_readLevel_111 ?_
      refine gX5_44 hO dX5_readLevel_112 ?_
      refine r_iast hO (sM_9 hm1) dX5_readLevel_115 ?_
      refine r_nmW fun σ10 => ?_
      refine r_aload_n (i := 1) hO rfl rfl dX5_readLevel_116 ?_
      refine gX5_154 hO hm1 dX5_readLevel_117 ?_
      refine r_iload_n (i := 2) hO rfl rfl dX5_readLevel_120 ?_
      refine r_dup2 hO rfl rfl dX5_readLevel_121 ?_
      refine r_iald hO (sM_6 hm1) dX5_readLevel_122 ?_
      refine r_iconst hO ci_1 dX5_readLevel_123 ?_
      refine r_iadd hO dX5_readLevel_124 ?_
      refine r_iast hO (sM_6 hm1) dX5_readLevel_125 ?_
      refine r_nmW fun σ11 => ?_
      refine r_iconst hO ci_1 dX5_readLevel_126 ?_
      exact r_zret hO hR dX5_readLevel_127
set_option maxRecDepth 20000 in
set_option maxHeartbeats 1000000 in
theorem b_X5_readLevel {K : Kt} {m1 : Nat} (hO : Ok K cX5_readLevel RX5 5 rm_X5_readLevel) (hR : Rt K (some .boolean)) (hm1 : isM m1)  (σ : Wd) : Cm K 5 (0, 0) (f_X5_readLevel m1 σ) σ 0 [(0, .ref (K.G.A 1)), (1, .ref (K.G.A m1))] [] := by
  refine r_aload_n (i := 0) hO rfl rfl dX5_readLevel_0 ?_
  refine r_aload_n (i := 1) hO rfl rfl dX5_readLevel_1 ?_
  refine k_X5_findsVenue hO hm1 a_275 rfl ⟨rfl, rfl, Nat.le_refl _, Nat.le_refl _⟩ dX5_readLevel_2 ?_
  intro r1 σ2
  refine r_if_ne (tgt := 10) hO dX5_readLevel_5 (by decide) ?_ ?_
  · refine r_iconst hO ci_0 dX5_readLevel_8 ?_
    exact r_zret hO hR dX5_readLevel_9
  · refine r_aload_n (i := 0) hO rfl rfl dX5_readLevel_10 ?_
    refine gX5_44 hO dX5_readLevel_11 ?_
    refine r_istore_n (i := 2) hO rfl rfl rfl dX5_readLevel_14 ?_
    refine r_aload_n (i := 1) hO rfl rfl dX5_readLevel_15 ?_
    refine gX5_154 hO hm1 dX5_readLevel_16 ?_
    refine r_iload_n (i := 2) hO rfl rfl dX5_readLevel_19 ?_
    refine r_iald hO (sM_6 hm1) dX5_readLevel_20 ?_
    refine r_istore_n (i := 3) hO rfl rfl rfl dX5_readLevel_21 ?_
    refine r_iload_n (i := 3) hO rfl rfl dX5_readLevel_22 ?_
    refine r_bipush hO bi_6 dX5_readLevel_23 ?_
    refine r_icmp_lt (tgt := 34) hO dX5_readLevel_25 (by decide) ?_ ?_
    · refine r_aload_n (i := 0) hO rfl rfl dX5_readLevel_34 ?_
      refine k_X5_step hO a_238 rfl ⟨rfl, rfl, Nat.le_refl _, Nat.le_refl _⟩ dX5_readLevel_35 ?_
      intro _ σ3
      refine r_iload_n (i := 3) hO rfl rfl dX5_readLevel_38 ?_
      refine r_if_le (tgt := 57) hO dX5_readLevel_39 (by decide) ?_ ?_
      · refine r_iconst hO ci_0 dX5_readLevel_57 ?_
        exact r_jmp (b_X5_readLevel_58 hO hR hm1 (σ2.1 1 10) (σ2.1 (m1 + 6) (ix (σ2.1 1 10))) (0 : Int32) σ3) (lsub_c rfl (lsub_c rfl (lsub_c rfl (lsub_c rfl lsub_n))))
      · refine r_aload_n (i := 1) hO rfl rfl dX5_readLevel_42 ?_
        refine gX5_157 hO hm1 dX5_readLevel_43 ?_
        refine r_iload_n (i := 2) hO rfl rfl dX5_readLevel_46 ?_
        refine r_iload_n (i := 3) hO rfl rfl dX5_readLevel_47 ?_
        refine r_iconst hO ci_1 dX5_readLevel_48 ?_
        refine r_isub hO dX5_readLevel_49 ?_
        refine kN_X6_slot hO a_276 rfl ⟨rfl, rfl, Nat.le_refl _, Nat.le_refl _⟩ dX5_readLevel_50 ?_
        intro r4 σ5
        refine r_iald hO (sM_8 hm1) dX5_readLevel_53 ?_
        refine r_goto (tgt := 58) hO dX5_readLevel_54 (by decide) ?_
        exact r_jmp (b_X5_readLevel_58 hO hR hm1 (σ2.1 1 10) (σ2.1 (m1 + 6) (ix (σ2.1 1 10))) (σ5.1 (m1 + 8) (ix r4)) σ5) (lsub_c rfl (lsub_c rfl (lsub_c rfl (lsub_c rfl lsub_n))))
    · refine r_aload_n (i := 0) hO rfl rfl dX5_readLevel_28 ?_
      refine r_iconst hO ci_5 dX5_readLevel_29 ?_
      refine k_X5_fails hO a_237 rfl ⟨rfl, rfl, Nat.le_refl _, Nat.le_refl _⟩ dX5_readLevel_30 ?_
      intro r6 σ7
      exact r_zret hO hR dX5_readLevel_33
theorem c_X5_readLevel {l : Launch} {G : Gh} {m1 : Nat} (hm1 : isM m1)  (σ : Wd) : Con l G yX5_readLevel cX5_readLevel 5 (some .boolean) 8 169 [.ref (G.A 1), .ref (G.A m1)] σ (f_X5_readLevel m1 σ) := Con.of (plainFor_of_name (by decide)) rfl (Nat.le_of_ble_eq_true rfl) (fun K hl hG hO hR => by subst hl; subst hG; exact b_X5_readLevel hO hR hm1  σ)
theorem cal_X5_readLevel : CalV yX5_readLevel cX5_readLevel 5 (some .boolean) 1 := ⟨a_277, a_278, a_279, a_217, by decide, by decide, by decide +kernel⟩
theorem k_X5_readLevel {K : Kt} {nL : Nat} {cs : Nat × Nat} {σ : Wd} {pc : Nat} {lv : List (Nat × Value)} {st : List Value} {cc : ByteArray} {own : String} {rm : Room} {index : Nat} {g : Int32 → Wd → Option (Int32 × Wd)} {m1 : Nat} (hO : Ok K cc own nL rm) (hm1 : isM m1) (hl : Cond.methodLink own index yX5_readLevel ∈ gtb) (hcat : Nat.ble ((st.map fun v => v.category).sum) 8 = true) (hR : RoomOk rm cs 8 169 5) (d : decode cc pc = .ok (.invokevirtual index, 3)) (kk : ∀ (r : Int32) (σ : Wd), Cm K nL cs (g r σ) σ (pc + 3) lv (.int r :: st)) : Cm K nL cs (bd (f_X5_readLevel m1 σ) g) σ pc lv (.ref (K.G.A m1) :: .ref (K.G.A 1) :: st) := r_cVi hO (c_X5_readLevel hm1  σ) cal_X5_readLevel hl rfl (by decide) ent_X5 rfl rfl hcat hR d kk
/-! OrderSplit_Tape.readEvent -/
def f_X5_readEvent_16 (m1 : Nat)  (x2 : Int32) (s0 : Int32) (σ : Wd) : Option (Int32 × Wd) := bd (f_X5_takesWhole s0 (200 : Int32) σ) fun r1 σ2 => if r1 = 0 then (gd (isb (0 : Int32)) (some ((0 : Int32), σ2))) else (gd (inb x2 10) (nmW (wi σ2 (m1 + 10) (ix x2) (σ2.1 1 10)) fun σ3 => bd (f_X5_findsVenue m1 σ3) fun r4 σ5 => if r4 = 0 then (gd (isb (0 : Int32)) (some ((0 : Int32), σ5))) else (bd (f_X5_step σ5) fun _ σ6 => gd (inb (σ5.1 1 10) 5) (bd (f_X5_takesWhole (0 : Int32) ((σ6.1 (m1 + 6) (ix (σ5.1 1 10))) - (1 : Int32)) σ6) fun r7 σ8 => if r7 = 0 then (gd (isb (0 : Int32)) (some ((0 : Int32), σ8))) else (bd (f_X6_slot (σ5.1 1 10) (σ8.1 1 10) σ8) fun r9 σ10 => gd (inb x2 10) (nmW (wi σ10 (m1 + 11) (ix x2) r9) fun σ11 => bd (f_X5_takesWhole (0 : Int32) (99 : Int32) σ11) fun r12 σ13 => if r12 = 0 then (gd (isb (0 : Int32)) (some ((0 : Int32), σ13))) else (gd (inb x2 10) (nmW (wi σ13 (m1 + 12) (ix x2) (σ13.1 1 10)) fun σ14 => nmW (wi σ14 m1 4 ((σ14.1 m1 4) + (1 : Int32))) fun σ15 => gd (isb (1 : Int32)) (some ((1 : Int32), σ15))))))))))
def f_X5_readEvent (m1 : Nat) (a2 : Int32) (σ : Wd) : Option (Int32 × Wd) := if a2 ≤ 0 then (f_X5_readEvent_16 m1 a2 (1 : Int32) σ) else (gd (inb (a2 - (1 : Int32)) 10) ((f_X5_readEvent_16 m1 a2 (σ.1 (m1 + 10) (ix (a2 - (1 : Int32)))) σ)))
set_option maxRecDepth 20000 in
set_option maxHeartbeats 1000000 in
theorem b_X5_readEvent_16 {K : Kt} {m1 : Nat}  (hO : Ok K cX5_readEvent RX5 5 rm_X5_readEvent) (hR : Rt K (some .boolean)) (hm1 : isM m1)  (x2 : Int32) (s0 : Int32) (σ : Wd)  : Cm K 5 (0, 0) (f_X5_readEvent_16 m1 x2 s0 σ) σ 16 [(0, .ref (K.G.A 1)), (1, .ref (K.G.A m1)), (2, .int x2)] [.int s0] := by
  refine r_istore_n (i := 3) hO rfl rfl rfl dX5_readEvent_16 ?_
  refine r_aload_n (i := 0) hO rfl rfl dX5_readEvent_17 ?_
  refine r_iload_n (i := 3) hO rfl rfl dX5_readEvent_18 ?_
  refine r_sipush hO si_200 dX5_readEvent_19 ?_
  refine k_X5_takesWhole hO a_246 rfl ⟨rfl, rfl, Nat.le_refl _, Nat.le_refl _⟩ dX5_readEvent_22 ?_
  intro r1 σ2
  refine r_if_ne (tgt := 30) hO dX5_readEvent_25 (by decide) ?_ ?_
  · refine r_iconst hO ci_0 dX5_readEvent_28 ?_
    exact r_zret hO hR dX5_readEvent_29
  · refine r_aload_n (i := 1) hO rfl rfl dX5_readEvent_30 ?_
    refine gX5_166 hO hm1 dX5_readEvent_31 ?_
    refine r_iload_n (i := 2) hO rfl rfl dX5_readEvent_34 ?_
    refine r_aload_n (i := 0) hO rfl rfl dX5_readEvent_35 ?_
    refine gX5_44 hO dX5_readEvent_36 ?_
    refine r_iast hO (sM_10 hm1) dX5_readEvent_39 ?_
    refine r_nmW fun σ3 => ?_
    refine r_aload_n (i := 0) hO rfl rfl dX5_readEvent_40 ?_
    refine r_aload_n (i := 1) hO rfl rfl dX5_readEvent_41 ?_
    refine k_X5_findsVenue hO hm1 a_275 rfl ⟨rfl, rfl, Nat.le_refl _, Nat.le_refl _⟩ dX5_readEvent_42 ?_
    intro r4 σ5
    refine r_if_ne (tgt := 50) hO dX5_readEvent_45 (by decide) ?_ ?_
    · refine r_iconst hO ci_0 dX5_readEvent_48 ?_
      exact r_zret hO hR dX5_readEvent_49
    · refine r_aload_n (i := 0) hO rfl rfl dX5_readEvent_50 ?_
      refine gX5_44 hO dX5_readEvent_51 ?_
      refine r_istore hO rfl rfl dX5_readEvent_54 ?_
      refine r_aload_n (i := 0) hO rfl rfl dX5_readEvent_56 ?_
      refine k_X5_step hO a_238 rfl ⟨rfl, rfl, Nat.le_refl _, Nat.le_refl _⟩ dX5_readEvent_57 ?_
      intro _ σ6
      refine r_aload_n (i := 0) hO rfl rfl dX5_readEvent_60 ?_
      refine r_iconst hO ci_0 dX5_readEvent_61 ?_
      refine r_aload_n (i := 1) hO rfl rfl dX5_readEvent_62 ?_
      refine gX5_154 hO hm1 dX5_readEvent_63 ?_
      refine r_iload hO (d := dX5_readEvent_66) rfl ?_
      refine r_iald hO (sM_6 hm1) dX5_readEvent_68 ?_
      refine r_iconst hO ci_1 dX5_readEvent_69 ?_
      refine r_isub hO dX5_readEvent_70 ?_
      refine k_X5_takesWhole hO a_246 rfl ⟨rfl, rfl, Nat.le_refl _, Nat.le_refl _⟩ dX5_readEvent_71 ?_
      intro r7 σ8
      refine r_if_ne (tgt := 79) hO dX5_readEvent_74 (by decide) ?_ ?_
      · refine r_iconst hO ci_0 dX5_readEvent_77 ?_
        exact r_zret hO hR dX5_readEvent_78
      · refine r_aload_n (i := 1) hO rfl rfl dX5_readEvent_79 ?_
        refine gX5_169 hO hm1 dX5_readEvent_80 ?_
        refine r_iload_n (i := 2) hO rfl rfl dX5_readEvent_83 ?_
        refine r_iload hO (d := dX5_readEvent_84) rfl ?_
        refine r_aload_n (i := 0) hO rfl rfl dX5_readEvent_86 ?_
        refine gX5_44 hO dX5_readEvent_87 ?_
        refine kN_X6_slot hO a_276 rfl ⟨rfl, rfl, Nat.le_refl _, Nat.le_refl _⟩ dX5_readEvent_90 ?_
        intro r9 σ10
        refine r_iast hO (sM_11 hm1) dX5_readEvent_93 ?_
        refine r_nmW fun σ11 => ?_
        refine r_aload_n (i := 0) hO rfl rfl dX5_readEvent_94 ?_
        refine r_iconst hO ci_0 dX5_readEvent_95 ?_
        refine r_bipush hO bi_99 dX5_readEvent_96 ?_
        refine k_X5_takesWhole hO a_246 rfl ⟨rfl, rfl, Nat.le_refl _, Nat.le_refl _⟩ dX5_readEvent_98 ?_
        intro r12 σ13
        refine r_if_ne (tgt := 106) hO dX5_readEvent_101 (by decide) ?_ ?_
        · refine r_iconst hO ci_0 dX5_readEvent_104 ?_
          exact r_zret hO hR dX5_readEvent_105
        · refine r_aload_n (i := 1) hO rfl rfl dX5_readEvent_106 ?_
          refine gX5_172 hO hm1 dX5_readEvent_107 ?_
          refine r_iload_n (i := 2) hO rfl rfl dX5_readEvent_110 ?_
          refine r_aload_n (i := 0) hO rfl rfl dX5_readEvent_111 ?_
          refine gX5_44 hO dX5_readEvent_112 ?_
          refine r_iast hO (sM_12 hm1) dX5_readEvent_115 ?_
          refine r_nmW fun σ14 => ?_
          refine r_aload_n (i := 1) hO rfl rfl dX5_readEvent_116 ?_
          refine r_dup hO rfl dX5_readEvent_117 ?_
          refine gX5_92 hO hm1 dX5_readEvent_118 ?_
          refine r_iconst hO ci_1 dX5_readEvent_121 ?_
          refine r_iadd hO dX5_readEvent_122 ?_
          refine pX5_92 hO hm1 dX5_readEvent_123 ?_
          refine r_nmW fun σ15 => ?_
          refine r_iconst hO ci_1 dX5_readEvent_126 ?_
          exact r_zret hO hR dX5_readEvent_127
set_option maxRecDepth 20000 in
set_option maxHeartbeats 1000000 in
theorem b_X5_readEvent {K : Kt} {m1 : Nat} (hO : Ok K cX5_readEvent RX5 5 rm_X5_readEvent) (hR : Rt K (some .boolean)) (hm1 : isM m1) (a2 : Int32) (σ : Wd) : Cm K 5 (0, 0) (f_X5_readEvent m1 a2 σ) σ 0 [(0, .ref (K.G.A 1)), (1, .ref (K.G.A m1)), (2, .int a2)] [] := by
  refine r_iload_n (i := 2) hO rfl rfl dX5_readEvent_0 ?_
  refine r_if_le (tgt := 15) hO dX5_readEvent_1 (by decide) ?_ ?_
  · refine r_iconst hO ci_1 dX5_readEvent_15 ?_
    exact r_jmp (b_X5_readEvent_16 hO hR hm1 a2 (1 : Int32) σ) (lsub_c rfl (lsub_c rfl (lsub_c rfl lsub_n)))
  · refine r_aload_n (i := 1) hO rfl rfl dX5_readEvent_4 ?_
    refine gX5_166 hO hm1 dX5_readEvent_5 ?_
    refine r_iload_n (i := 2) hO rfl rfl dX5_readEvent_8 ?_
    refine r_iconst hO ci_1 dX5_readEvent_9 ?_
    refine r_isub hO dX5_readEvent_10 ?_
    refine r_iald hO (sM_10 hm1) dX5_readEvent_11 ?_
    refine r_goto (tgt := 16) hO dX5_readEvent_12 (by decide) ?_
    exact r_jmp (b_X5_readEvent_16 hO hR hm1 a2 (σ.1 (m1 + 10) (ix (a2 - (1 : Int32)))) σ) (lsub_c rfl (lsub_c rfl (lsub_c rfl lsub_n)))
theorem c_X5_readEvent {l : Launch} {G : Gh} {m1 : Nat} (hm1 : isM m1) (a2 : Int32) (σ : Wd) : Con l G yX5_readEvent cX5_readEvent 5 (some .boolean) 8 169 [.ref (G.A 1), .ref (G.A m1), .int a2] σ (f_X5_readEvent m1 a2 σ) := Con.of (plainFor_of_name (by decide)) rfl (Nat.le_of_ble_eq_true rfl) (fun K hl hG hO hR => by subst hl; subst hG; exact b_X5_readEvent hO hR hm1 a2 σ)
theorem cal_X5_readEvent : CalV yX5_readEvent cX5_readEvent 5 (some .boolean) 2 := ⟨a_280, a_281, a_282, a_217, by decide, by decide, by decide +kernel⟩
theorem k_X5_readEvent {K : Kt} {nL : Nat} {cs : Nat × Nat} {σ : Wd} {pc : Nat} {lv : List (Nat × Value)} {st : List Value} {cc : ByteArray} {own : String} {rm : Room} {index : Nat} {g : Int32 → Wd → Option (Int32 × Wd)} {m1 : Nat} {a2 : Int32} (hO : Ok K cc own nL rm) (hm1 : isM m1) (hl : Cond.methodLink own index yX5_readEvent ∈ gtb) (hcat : Nat.ble ((st.map fun v => v.category).sum) 8 = true) (hR : RoomOk rm cs 8 169 5) (d : decode cc pc = .ok (.invokevirtual index, 3)) (kk : ∀ (r : Int32) (σ : Wd), Cm K nL cs (g r σ) σ (pc + 3) lv (.int r :: st)) : Cm K nL cs (bd (f_X5_readEvent m1 a2 σ) g) σ pc lv (.int a2 :: .ref (K.G.A m1) :: .ref (K.G.A 1) :: st) := r_cVi hO (c_X5_readEvent hm1 a2 σ) cal_X5_readEvent hl rfl (by decide) ent_X5 rfl rfl hcat hR d kk
/-! OrderSplit_Tape.readLine -/
def f_X5_readLine_62 (m1 : Nat)  (s0 : Int32) (σ : Wd) : Option (Int32 × Wd) := gd (isb s0) (some (s0, σ))
def f_X5_readLine_61 (m1 : Nat)   (σ : Wd) : Option (Int32 × Wd) := (f_X5_readLine_62 m1 (0 : Int32) σ)
def f_X5_readLine_39 (m1 : Nat)  (s2 : Int32) (σ : Wd) : Option (Int32 × Wd) := bd (f_X5_opens m1 s2 σ) fun r1 σ2 => if r1 = 0 then (f_X5_readLine_61 m1 σ2) else (bd (f_X5_readVenue m1 (σ2.1 m1 3) σ2) fun r3 σ4 => if r3 = 0 then (f_X5_readLine_61 m1 σ4) else (f_X5_readLine_62 m1 (1 : Int32) σ4))
def f_X5_readLine_94 (m1 : Nat)  (s0 : Int32) (σ : Wd) : Option (Int32 × Wd) := gd (isb s0) (some (s0, σ))
def f_X5_readLine_93 (m1 : Nat)   (σ : Wd) : Option (Int32 × Wd) := (f_X5_readLine_94 m1 (0 : Int32) σ)
def f_X5_readLine_143 (m1 : Nat)  (s0 : Int32) (σ : Wd) : Option (Int32 × Wd) := gd (isb s0) (some (s0, σ))
def f_X5_readLine_142 (m1 : Nat)   (σ : Wd) : Option (Int32 × Wd) := (f_X5_readLine_143 m1 (0 : Int32) σ)
def f_X5_readLine_120 (m1 : Nat)  (s2 : Int32) (σ : Wd) : Option (Int32 × Wd) := bd (f_X5_opens m1 s2 σ) fun r1 σ2 => if r1 = 0 then (f_X5_readLine_142 m1 σ2) else (bd (f_X5_readEvent m1 (σ2.1 m1 4) σ2) fun r3 σ4 => if r3 = 0 then (f_X5_readLine_142 m1 σ4) else (f_X5_readLine_143 m1 (1 : Int32) σ4))
def f_X5_readLine (m1 : Nat) (σ : Wd) : Option (Int32 × Wd) := bd (f_X5_isWord 0 σ) fun r1 σ2 => if r1 = 0 then (bd (f_X5_isWord 1 σ2) fun r3 σ4 => if r3 = 0 then (bd (f_X5_isWord 2 σ4) fun r5 σ6 => if r5 = 0 then (bd (f_X5_isWord 3 σ6) fun r7 σ8 => if r7 = 0 then (bd (f_X5_fails (1 : Int32) σ8) fun r9 σ10 => gd (isb r9) (some (r9, σ10))) else (if (10 : Int32) ≤ (σ8.1 m1 4) then (f_X5_readLine_120 m1 (0 : Int32) σ8) else (f_X5_readLine_120 m1 (1 : Int32) σ8))) else (bd (f_X5_opens m1 (1 : Int32) σ6) fun r11 σ12 => if r11 = 0 then (f_X5_readLine_93 m1 σ12) else (bd (f_X5_readLevel m1 σ12) fun r13 σ14 => if r13 = 0 then (f_X5_readLine_93 m1 σ14) else (f_X5_readLine_94 m1 (1 : Int32) σ14)))) else (if (5 : Int32) ≤ (σ4.1 m1 3) then (f_X5_readLine_39 m1 (0 : Int32) σ4) else (f_X5_readLine_39 m1 (1 : Int32) σ4))) else (bd (f_X5_readOrder m1 σ2) fun r15 σ16 => gd (isb r15) (some (r15, σ16)))
set_option maxRecDepth 20000 in
set_option maxHeartbeats 1000000 in
theorem b_X5_readLine_62 {K : Kt} {m1 : Nat}  (hO : Ok K cX5_readLine RX5 2 rm_X5_readLine) (hR : Rt K (some .boolean)) (hm1 : isM m1)  (s0 : Int32) (σ : Wd)  : Cm K 2 (0, 0) (f_X5_readLine_62 m1 s0 σ) σ 62 [] [.int s0] := by
  exact r_zret hO hR dX5_readLine_62
set_option maxRecDepth 20000 in
set_option maxHeartbeats 1000000 in
theorem b_X5_readLine_61 {K : Kt} {m1 : Nat}  (hO : Ok K cX5_readLine RX5 2 rm_X5_readLine) (hR : Rt K (some .boolean)) (hm1 : isM m1)   (σ : Wd)  : Cm K 2 (0, 0) (f_X5_readLine_61 m1  σ) σ 61 [] [] := by
  refine r_iconst hO ci_0 dX5_readLine_61 ?_
  exact r_jmp (b_X5_readLine_62 hO hR hm1 (0 : Int32) σ) lsub_n
set_option maxRecDepth 20000 in
set_option maxHeartbeats 1000000 in
theorem b_X5_readLine_39 {K : Kt} {m1 : Nat}  (hO : Ok K cX5_readLine RX5 2 rm_X5_readLine) (hR : Rt K (some .boolean)) (hm1 : isM m1)  (s2 : Int32) (σ : Wd)  : Cm K 2 (0, 0) (f_X5_readLine_39 m1 s2 σ) σ 39 [(0, .ref (K.G.A 1)), (1, .ref (K.G.A m1))] [.int s2, .ref (K.G.A m1), .ref (K.G.A 1)] := by
  refine k_X5_opens hO hm1 a_283 rfl ⟨rfl, rfl, Nat.le_refl _, Nat.le_refl _⟩ dX5_readLine_39 ?_
  intro r1 σ2
  refine r_if_eq (tgt := 61) hO dX5_readLine_42 (by decide) ?_ ?_
  · exact r_jmp (b_X5_readLine_61 hO hR hm1 σ2) lsub_n
  · refine r_aload_n (i := 0) hO rfl rfl dX5_readLine_45 ?_
    refine r_aload_n (i := 1) hO rfl rfl dX5_readLine_46 ?_
    refine r_aload_n (i := 1) hO rfl rfl dX5_readLine_47 ?_
    refine gX5_59 hO hm1 dX5_readLine_48 ?_
    refine k_X5_readVenue hO hm1 a_286 rfl ⟨rfl, rfl, Nat.le_refl _, Nat.le_refl _⟩ dX5_readLine_51 ?_
    intro r3 σ4
    refine r_if_eq (tgt := 61) hO dX5_readLine_54 (by decide) ?_ ?_
    · exact r_jmp (b_X5_readLine_61 hO hR hm1 σ4) lsub_n
    · refine r_iconst hO ci_1 dX5_readLine_57 ?_
      refine r_goto (tgt := 62) hO dX5_readLine_58 (by decide) ?_
      exact r_jmp (b_X5_readLine_62 hO hR hm1 (1 : Int32) σ4) lsub_n
set_option maxRecDepth 20000 in
set_option maxHeartbeats 1000000 in
theorem b_X5_readLine_94 {K : Kt} {m1 : Nat}  (hO : Ok K cX5_readLine RX5 2 rm_X5_readLine) (hR : Rt K (some .boolean)) (hm1 : isM m1)  (s0 : Int32) (σ : Wd)  : Cm K 2 (0, 0) (f_X5_readLine_94 m1 s0 σ) σ 94 [] [.int s0] := by
  exact r_zret hO hR dX5_readLine_94
set_option maxRecDepth 20000 in
set_option maxHeartbeats 1000000 in
theorem b_X5_readLine_93 {K : Kt} {m1 : Nat}  (hO : Ok K cX5_readLine RX5 2 rm_X5_readLine) (hR : Rt K (some .boolean)) (hm1 : isM m1)   (σ : Wd)  : Cm K 2 (0, 0) (f_X5_readLine_93 m1  σ) σ 93 [] [] := by
  refine r_iconst hO ci_0 dX5_readLine_93 ?_
  exact r_jmp (b_X5_readLine_94 hO hR hm1 (0 : Int32) σ) lsub_n
set_option maxRecDepth 20000 in
set_option maxHeartbeats 1000000 in
theorem b_X5_readLine_143 {K : Kt} {m1 : Nat}  (hO : Ok K cX5_readLine RX5 2 rm_X5_readLine) (hR : Rt K (some .boolean)) (hm1 : isM m1)  (s0 : Int32) (σ : Wd)  : Cm K 2 (0, 0) (f_X5_readLine_143 m1 s0 σ) σ 143 [] [.int s0] := by
  exact r_zret hO hR dX5_readLine_143
set_option maxRecDepth 20000 in
set_option maxHeartbeats 1000000 in
theorem b_X5_readLine_142 {K : Kt} {m1 : Nat}  (hO : Ok K cX5_readLine RX5 2 rm_X5_readLine) (hR : Rt K (some .boolean)) (hm1 : isM m1)   (σ : Wd)  : Cm K 2 (0, 0) (f_X5_readLine_142 m1  σ) σ 142 [] [] := by
  refine r_iconst hO ci_0 dX5_readLine_142 ?_
  exact r_jmp (b_X5_readLine_143 hO hR hm1 (0 : Int32) σ) lsub_n
set_option maxRecDepth 20000 in
set_option maxHeartbeats 1000000 in
theorem b_X5_readLine_120 {K : Kt} {m1 : Nat}  (hO : Ok K cX5_readLine RX5 2 rm_X5_readLine) (hR : Rt K (some .boolean)) (hm1 : isM m1)  (s2 : Int32) (σ : Wd)  : Cm K 2 (0, 0) (f_X5_readLine_120 m1 s2 σ) σ 120 [(0, .ref (K.G.A 1)), (1, .ref (K.G.A m1))] [.int s2, .ref (K.G.A m1), .ref (K.G.A 1)] := by
  refine k_X5_opens hO hm1 a_283 rfl ⟨rfl, rfl, Nat.le_refl _, Nat.le_refl _⟩ dX5_readLine_120 ?_
  intro r1 σ2
  refine r_if_eq (tgt := 142) hO dX5_readLine_123 (by decide) ?_ ?_
  · exact r_jmp (b_X5_readLine_142 hO hR hm1 σ2) lsub_n
  · refine r_aload_n (i := 0) hO rfl rfl dX5_readLine_126 ?_
    refine r_aload_n (i := 1) hO rfl rfl dX5_readLine_127 ?_
    refine r_aload_n (i := 1) hO rfl rfl dX5_readLine_128 ?_
    refine gX5_92 hO hm1 dX5_readLine_129 ?_
    refine k_X5_readEvent hO hm1 a_287 rfl ⟨rfl, rfl, Nat.le_refl _, Nat.le_refl _⟩ dX5_readLine_132 ?_
    intro r3 σ4
    refine r_if_eq (tgt := 142) hO dX5_readLine_135 (by decide) ?_ ?_
    · exact r_jmp (b_X5_readLine_142 hO hR hm1 σ4) lsub_n
    · refine r_iconst hO ci_1 dX5_readLine_138 ?_
      refine r_goto (tgt := 143) hO dX5_readLine_139 (by decide) ?_
      exact r_jmp (b_X5_readLine_143 hO hR hm1 (1 : Int32) σ4) lsub_n
set_option maxRecDepth 20000 in
set_option maxHeartbeats 1000000 in
theorem b_X5_readLine {K : Kt} {m1 : Nat} (hO : Ok K cX5_readLine RX5 2 rm_X5_readLine) (hR : Rt K (some .boolean)) (hm1 : isM m1)  (σ : Wd) : Cm K 2 (0, 0) (f_X5_readLine m1 σ) σ 0 [(0, .ref (K.G.A 1)), (1, .ref (K.G.A m1))] [] := by
  refine r_aload_n (i := 0) hO rfl rfl dX5_readLine_0 ?_
  refine r_ldcS hO t_X5_66 dX5_readLine_1 ?_
  refine k_X5_isWord hO (rfl : Nat.blt 0 13 = true) a_236 rfl ⟨rfl, rfl, Nat.le_refl _, Nat.le_refl _⟩ dX5_readLine_3 ?_
  intro r1 σ2
  refine r_if_eq (tgt := 15) hO dX5_readLine_6 (by decide) ?_ ?_
  · refine r_aload_n (i := 0) hO rfl rfl dX5_readLine_15 ?_
    refine r_ldcS hO t_X5_75 dX5_readLine_16 ?_
    refine k_X5_isWord hO (rfl : Nat.blt 1 13 = true) a_236 rfl ⟨rfl, rfl, Nat.le_refl _, Nat.le_refl _⟩ dX5_readLine_18 ?_
    intro r3 σ4
    refine r_if_eq (tgt := 63) hO dX5_readLine_21 (by decide) ?_ ?_
    · refine r_aload_n (i := 0) hO rfl rfl dX5_readLine_63 ?_
      refine r_ldcS hO t_X5_85 dX5_readLine_64 ?_
      refine k_X5_isWord hO (rfl : Nat.blt 2 13 = true) a_236 rfl ⟨rfl, rfl, Nat.le_refl _, Nat.le_refl _⟩ dX5_readLine_66 ?_
      intro r5 σ6
      refine r_if_eq (tgt := 95) hO dX5_readLine_69 (by decide) ?_ ?_
      · refine r_aload_n (i := 0) hO rfl rfl dX5_readLine_95 ?_
        refine r_ldcS hO t_X5_90 dX5_readLine_96 ?_
        refine k_X5_isWord hO (rfl : Nat.blt 3 13 = true) a_236 rfl ⟨rfl, rfl, Nat.le_refl _, Nat.le_refl _⟩ dX5_readLine_98 ?_
        intro r7 σ8
        refine r_if_eq (tgt := 144) hO dX5_readLine_101 (by decide) ?_ ?_
        · refine r_aload_n (i := 0) hO rfl rfl dX5_readLine_144 ?_
          refine r_iconst hO ci_1 dX5_readLine_145 ?_
          refine k_X5_fails hO a_237 rfl ⟨rfl, rfl, Nat.le_refl _, Nat.le_refl _⟩ dX5_readLine_146 ?_
          intro r9 σ10
          exact r_zret hO hR dX5_readLine_149
        · refine r_aload_n (i := 0) hO rfl rfl dX5_readLine_104 ?_
          refine r_aload_n (i := 1) hO rfl rfl dX5_readLine_105 ?_
          refine r_aload_n (i := 1) hO rfl rfl dX5_readLine_106 ?_
          refine gX5_92 hO hm1 dX5_readLine_107 ?_
          refine r_bipush hO bi_10 dX5_readLine_110 ?_
          refine r_icmp_ge (tgt := 119) hO dX5_readLine_112 (by decide) ?_ ?_
          · refine r_iconst hO ci_0 dX5_readLine_119 ?_
            exact r_jmp (b_X5_readLine_120 hO hR hm1 (0 : Int32) σ8) (lsub_c rfl (lsub_c rfl lsub_n))
          · refine r_iconst hO ci_1 dX5_readLine_115 ?_
            refine r_goto (tgt := 120) hO dX5_readLine_116 (by decide) ?_
            exact r_jmp (b_X5_readLine_120 hO hR hm1 (1 : Int32) σ8) (lsub_c rfl (lsub_c rfl lsub_n))
      · refine r_aload_n (i := 0) hO rfl rfl dX5_readLine_72 ?_
        refine r_aload_n (i := 1) hO rfl rfl dX5_readLine_73 ?_
        refine r_iconst hO ci_1 dX5_readLine_74 ?_
        refine k_X5_opens hO hm1 a_283 rfl ⟨rfl, rfl, Nat.le_refl _, Nat.le_refl _⟩ dX5_readLine_75 ?_
        intro r11 σ12
        refine r_if_eq (tgt := 93) hO dX5_readLine_78 (by decide) ?_ ?_
        · exact r_jmp (b_X5_readLine_93 hO hR hm1 σ12) lsub_n
        · refine r_aload_n (i := 0) hO rfl rfl dX5_readLine_81 ?_
          refine r_aload_n (i := 1) hO rfl rfl dX5_readLine_82 ?_
          refine k_X5_readLevel hO hm1 a_284 rfl ⟨rfl, rfl, Nat.le_refl _, Nat.le_refl _⟩ dX5_readLine_83 ?_
          intro r13 σ14
          refine r_if_eq (tgt := 93) hO dX5_readLine_86 (by decide) ?_ ?_
          · exact r_jmp (b_X5_readLine_93 hO hR hm1 σ14) lsub_n
          · refine r_iconst hO ci_1 dX5_readLine_89 ?_
            refine r_goto (tgt := 94) hO dX5_readLine_90 (by decide) ?_
            exact r_jmp (b_X5_readLine_94 hO hR hm1 (1 : Int32) σ14) lsub_n
    · refine r_aload_n (i := 0) hO rfl rfl dX5_readLine_24 ?_
      refine r_aload_n (i := 1) hO rfl rfl dX5_readLine_25 ?_
      refine r_aload_n (i := 1) hO rfl rfl dX5_readLine_26 ?_
      refine gX5_59 hO hm1 dX5_readLine_27 ?_
      refine r_iconst hO ci_5 dX5_readLine_30 ?_
      refine r_icmp_ge (tgt := 38) hO dX5_readLine_31 (by decide) ?_ ?_
      · refine r_iconst hO ci_0 dX5_readLine_38 ?_
        exact r_jmp (b_X5_readLine_39 hO hR hm1 (0 : Int32) σ4) (lsub_c rfl (lsub_c rfl lsub_n))
      · refine r_iconst hO ci_1 dX5_readLine_34 ?_
        refine r_goto (tgt := 39) hO dX5_readLine_35 (by decide) ?_
        exact r_jmp (b_X5_readLine_39 hO hR hm1 (1 : Int32) σ4) (lsub_c rfl (lsub_c rfl lsub_n))
  · refine r_aload_n (i := 0) hO rfl rfl dX5_readLine_9 ?_
    refine r_aload_n (i := 1) hO rfl rfl dX5_readLine_10 ?_
    refine k_X5_readOrder hO hm1 a_285 rfl ⟨rfl, rfl, Nat.le_refl _, Nat.le_refl _⟩ dX5_readLine_11 ?_
    intro r15 σ16
    exact r_zret hO hR dX5_readLine_14
theorem c_X5_readLine {l : Launch} {G : Gh} {m1 : Nat} (hm1 : isM m1)  (σ : Wd) : Con l G yX5_readLine cX5_readLine 2 (some .boolean) 9 193 [.ref (G.A 1), .ref (G.A m1)] σ (f_X5_readLine m1 σ) := Con.of (plainFor_of_name (by decide)) rfl (Nat.le_of_ble_eq_true rfl) (fun K hl hG hO hR => by subst hl; subst hG; exact b_X5_readLine hO hR hm1  σ)
theorem cal_X5_readLine : CalV yX5_readLine cX5_readLine 2 (some .boolean) 1 := ⟨a_288, a_289, a_290, a_217, by decide, by decide, by decide +kernel⟩
theorem k_X5_readLine {K : Kt} {nL : Nat} {cs : Nat × Nat} {σ : Wd} {pc : Nat} {lv : List (Nat × Value)} {st : List Value} {cc : ByteArray} {own : String} {rm : Room} {index : Nat} {g : Int32 → Wd → Option (Int32 × Wd)} {m1 : Nat} (hO : Ok K cc own nL rm) (hm1 : isM m1) (hl : Cond.methodLink own index yX5_readLine ∈ gtb) (hcat : Nat.ble ((st.map fun v => v.category).sum) 8 = true) (hR : RoomOk rm cs 9 193 2) (d : decode cc pc = .ok (.invokevirtual index, 3)) (kk : ∀ (r : Int32) (σ : Wd), Cm K nL cs (g r σ) σ (pc + 3) lv (.int r :: st)) : Cm K nL cs (bd (f_X5_readLine m1 σ) g) σ pc lv (.ref (K.G.A m1) :: .ref (K.G.A 1) :: st) := r_cVi hO (c_X5_readLine hm1  σ) cal_X5_readLine hl rfl (by decide) ent_X5 rfl rfl hcat hR d kk
/-! OrderSplit_Tape.readInto -/
def f_X5_readInto_75 (m1 : Nat)  (s0 : Int32) (σ : Wd) : Option (Int32 × Wd) := gd (isb s0) (some (s0, σ))
def f_X5_readInto_70 (m1 : Nat)   (σ : Wd) : Option (Int32 × Wd) := (f_X5_readInto_75 m1 (1 : Int32) σ)
def f_X5_readInto_30 (m1 : Nat)  : Nat → Int32 → Wd → Option (Int32 × Wd)
  | 0 => fun _ _ => none
  | n + 1 => fun x3 σ => if (900 : Int32) < x3 then (bd (f_X5_fails (1 : Int32) σ) fun r1 σ2 => gd (isb r1) (some (r1, σ2))) else (bd (f_X5_readLine m1 σ) fun r3 σ4 => if r3 = 0 then (gd (isb (0 : Int32)) (some ((0 : Int32), σ4))) else (if (σ4.1 1 7) = 0 then (if 0 < (σ4.1 m1 3) then (f_X5_readInto_70 m1 σ4) else (bd (f_X5_fails (6 : Int32) σ4) fun r5 σ6 => if r5 = 0 then (f_X5_readInto_75 m1 (0 : Int32) σ6) else (f_X5_readInto_70 m1 σ6))) else (if (σ4.1 1 7) = (3 : Int32) then (bd (f_X5_step σ4) fun _ σ7 => (f_X5_readInto_30 m1 n (x3 + (1 : Int32)) σ7)) else (bd (f_X5_fails (1 : Int32) σ4) fun r8 σ9 => gd (isb r8) (some (r8, σ9))))))
def f_X5_readInto (m1 : Nat) (a2 : Int32) (σ : Wd) : Option (Int32 × Wd) := bd (f_X3_clear m1 σ) fun _ σ1 => nmW (wi σ1 1 1 (0 : Int32)) fun σ2 => nmW (wi σ2 1 2 (-1 : Int32)) fun σ3 => nmW (wi σ3 1 6 (0 : Int32)) fun σ4 => nmW (wi σ4 1 5 a2) fun σ5 => bd (f_X5_step σ5) fun _ σ6 => (f_X5_readInto_30 m1 FU (0 : Int32) σ6)
set_option maxRecDepth 20000 in
set_option maxHeartbeats 1000000 in
theorem b_X5_readInto_75 {K : Kt} {m1 : Nat}  (hO : Ok K cX5_readInto RX5 4 rm_X5_readInto) (hR : Rt K (some .boolean)) (hm1 : isM m1)  (s0 : Int32) (σ : Wd)  : Cm K 4 (0, 0) (f_X5_readInto_75 m1 s0 σ) σ 75 [] [.int s0] := by
  exact r_zret hO hR dX5_readInto_75
set_option maxRecDepth 20000 in
set_option maxHeartbeats 1000000 in
theorem b_X5_readInto_70 {K : Kt} {m1 : Nat}  (hO : Ok K cX5_readInto RX5 4 rm_X5_readInto) (hR : Rt K (some .boolean)) (hm1 : isM m1)   (σ : Wd)  : Cm K 4 (0, 0) (f_X5_readInto_70 m1  σ) σ 70 [] [] := by
  refine r_iconst hO ci_1 dX5_readInto_70 ?_
  refine r_goto (tgt := 75) hO dX5_readInto_71 (by decide) ?_
  exact r_jmp (b_X5_readInto_75 hO hR hm1 (1 : Int32) σ) lsub_n
set_option maxRecDepth 20000 in
set_option maxHeartbeats 1000000 in
theorem b_X5_readInto_30 {K : Kt} {m1 : Nat}  (hO : Ok K cX5_readInto RX5 4 rm_X5_readInto) (hR : Rt K (some .boolean)) (hm1 : isM m1)  : ∀ (n : Nat) (x3 : Int32) (σ : Wd) , Cm K 4 (0, 0) (f_X5_readInto_30 m1 n x3 σ) σ 30 [(0, .ref (K.G.A 1)), (1, .ref (K.G.A m1)), (3, .int x3)] [] := by
  intro n
  induction n with
  | zero => intro x3 σ ; exact r_none
  | succ n ih =>
    intro x3 σ 
    refine r_iload_n (i := 3) hO rfl rfl dX5_readInto_30 ?_
    refine r_sipush hO si_900 dX5_readInto_31 ?_
    refine r_icmp_gt (tgt := 100) hO dX5_readInto_34 (by decide) ?_ ?_
    · refine r_aload_n (i := 0) hO rfl rfl dX5_readInto_100 ?_
      refine r_iconst hO ci_1 dX5_readInto_101 ?_
      refine k_X5_fails hO a_237 rfl ⟨rfl, rfl, Nat.le_refl _, Nat.le_refl _⟩ dX5_readInto_102 ?_
      intro r1 σ2
      exact r_zret hO hR dX5_readInto_105
    · refine r_aload_n (i := 0) hO rfl rfl dX5_readInto_37 ?_
      refine r_aload_n (i := 1) hO rfl rfl dX5_readInto_38 ?_
      refine k_X5_readLine hO hm1 a_292 rfl ⟨rfl, rfl, Nat.le_refl _, Nat.le_refl _⟩ dX5_readInto_39 ?_
      intro r3 σ4
      refine r_if_ne (tgt := 47) hO dX5_readInto_42 (by decide) ?_ ?_
      · refine r_iconst hO ci_0 dX5_readInto_45 ?_
        exact r_zret hO hR dX5_readInto_46
      · refine r_aload_n (i := 0) hO rfl rfl dX5_readInto_47 ?_
        refine gX5_35 hO dX5_readInto_48 ?_
        refine r_if_ne (tgt := 76) hO dX5_readInto_51 (by decide) ?_ ?_
        · refine r_aload_n (i := 1) hO rfl rfl dX5_readInto_54 ?_
          refine gX5_59 hO hm1 dX5_readInto_55 ?_
          refine r_if_gt (tgt := 70) hO dX5_readInto_58 (by decide) ?_ ?_
          · exact r_jmp (b_X5_readInto_70 hO hR hm1 σ4) lsub_n
          · refine r_aload_n (i := 0) hO rfl rfl dX5_readInto_61 ?_
            refine r_bipush hO bi_6 dX5_readInto_62 ?_
            refine k_X5_fails hO a_237 rfl ⟨rfl, rfl, Nat.le_refl _, Nat.le_refl _⟩ dX5_readInto_64 ?_
            intro r5 σ6
            refine r_if_eq (tgt := 74) hO dX5_readInto_67 (by decide) ?_ ?_
            · refine r_iconst hO ci_0 dX5_readInto_74 ?_
              exact r_jmp (b_X5_readInto_75 hO hR hm1 (0 : Int32) σ6) lsub_n
            · exact r_jmp (b_X5_readInto_70 hO hR hm1 σ6) lsub_n
        · refine r_aload_n (i := 0) hO rfl rfl dX5_readInto_76 ?_
          refine gX5_35 hO dX5_readInto_77 ?_
          refine r_iconst hO ci_3 dX5_readInto_80 ?_
          refine r_icmp_eq (tgt := 90) hO dX5_readInto_81 (by decide) ?_ ?_
          · refine r_aload_n (i := 0) hO rfl rfl dX5_readInto_90 ?_
            refine k_X5_step hO a_238 rfl ⟨rfl, rfl, Nat.le_refl _, Nat.le_refl _⟩ dX5_readInto_91 ?_
            intro _ σ7
            refine r_iinc hO rfl ci_1 rfl rfl dX5_readInto_94 ?_
            refine r_goto (tgt := 30) hO dX5_readInto_97 (by decide) ?_
            exact r_jmp (ih (x3 + (1 : Int32)) σ7) (lsub_c rfl (lsub_c rfl (lsub_c rfl lsub_n)))
          · refine r_aload_n (i := 0) hO rfl rfl dX5_readInto_84 ?_
            refine r_iconst hO ci_1 dX5_readInto_85 ?_
            refine k_X5_fails hO a_237 rfl ⟨rfl, rfl, Nat.le_refl _, Nat.le_refl _⟩ dX5_readInto_86 ?_
            intro r8 σ9
            exact r_zret hO hR dX5_readInto_89
set_option maxRecDepth 20000 in
set_option maxHeartbeats 1000000 in
theorem b_X5_readInto {K : Kt} {m1 : Nat} (hO : Ok K cX5_readInto RX5 4 rm_X5_readInto) (hR : Rt K (some .boolean)) (hm1 : isM m1) (a2 : Int32) (σ : Wd) : Cm K 4 (0, 0) (f_X5_readInto m1 a2 σ) σ 0 [(0, .ref (K.G.A 1)), (1, .ref (K.G.A m1)), (2, .int a2)] [] := by
  refine r_aload_n (i := 1) hO rfl rfl dX5_readInto_0 ?_
  refine k_X3_clear hO hm1 a_291 rfl ⟨rfl, rfl, Nat.le_refl _, Nat.le_refl _⟩ dX5_readInto_1 ?_
  intro _ σ1
  refine r_aload_n (i := 0) hO rfl rfl dX5_readInto_4 ?_
  refine r_iconst hO ci_0 dX5_readInto_5 ?_
  refine pX5_15 hO dX5_readInto_6 ?_
  refine r_nmW fun σ2 => ?_
  refine r_aload_n (i := 0) hO rfl rfl dX5_readInto_9 ?_
  refine r_iconst hO ci_m1 dX5_readInto_10 ?_
  refine pX5_18 hO dX5_readInto_11 ?_
  refine r_nmW fun σ3 => ?_
  refine r_aload_n (i := 0) hO rfl rfl dX5_readInto_14 ?_
  refine r_iconst hO ci_0 dX5_readInto_15 ?_
  refine pX5_32 hO dX5_readInto_16 ?_
  refine r_nmW fun σ4 => ?_
  refine r_aload_n (i := 0) hO rfl rfl dX5_readInto_19 ?_
  refine r_iload_n (i := 2) hO rfl rfl dX5_readInto_20 ?_
  refine pX5_29 hO dX5_readInto_21 ?_
  refine r_nmW fun σ5 => ?_
  refine r_aload_n (i := 0) hO rfl rfl dX5_readInto_24 ?_
  refine k_X5_step hO a_238 rfl ⟨rfl, rfl, Nat.le_refl _, Nat.le_refl _⟩ dX5_readInto_25 ?_
  intro _ σ6
  refine r_iconst hO ci_0 dX5_readInto_28 ?_
  refine r_istore_n (i := 3) hO rfl rfl rfl dX5_readInto_29 ?_
  exact r_jmp (b_X5_readInto_30 hO hR hm1 FU (0 : Int32) σ6) (lsub_c rfl (lsub_c rfl (lsub_c rfl lsub_n)))
theorem c_X5_readInto {l : Launch} {G : Gh} {m1 : Nat} (hm1 : isM m1) (a2 : Int32) (σ : Wd) : Con l G yX5_readInto cX5_readInto 4 (some .boolean) 10 214 [.ref (G.A 1), .ref (G.A m1), .int a2] σ (f_X5_readInto m1 a2 σ) := Con.of (plainFor_of_name (by decide)) rfl (Nat.le_of_ble_eq_true rfl) (fun K hl hG hO hR => by subst hl; subst hG; exact b_X5_readInto hO hR hm1 a2 σ)
theorem cal_X5_readInto : CalV yX5_readInto cX5_readInto 4 (some .boolean) 2 := ⟨a_293, a_294, a_295, a_217, by decide, by decide, by decide +kernel⟩
theorem k_X5_readInto {K : Kt} {nL : Nat} {cs : Nat × Nat} {σ : Wd} {pc : Nat} {lv : List (Nat × Value)} {st : List Value} {cc : ByteArray} {own : String} {rm : Room} {index : Nat} {g : Int32 → Wd → Option (Int32 × Wd)} {m1 : Nat} {a2 : Int32} (hO : Ok K cc own nL rm) (hm1 : isM m1) (hl : Cond.methodLink own index yX5_readInto ∈ gtb) (hcat : Nat.ble ((st.map fun v => v.category).sum) 8 = true) (hR : RoomOk rm cs 10 214 4) (d : decode cc pc = .ok (.invokevirtual index, 3)) (kk : ∀ (r : Int32) (σ : Wd), Cm K nL cs (g r σ) σ (pc + 3) lv (.int r :: st)) : Cm K nL cs (bd (f_X5_readInto m1 a2 σ) g) σ pc lv (.int a2 :: .ref (K.G.A m1) :: .ref (K.G.A 1) :: st) := r_cVi hO (c_X5_readInto hm1 a2 σ) cal_X5_readInto hl rfl (by decide) ent_X5 rfl rfl hcat hR d kk

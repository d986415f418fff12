/-! OrderSplit_Bounds.counts -/
def f_X0_counts_35 (m0 : Nat)  (s0 : Int32) (σ : Wd) : Option (Int32 × Wd) := gd (isb s0) (some (s0, σ))
def f_X0_counts_34 (m0 : Nat)   (σ : Wd) : Option (Int32 × Wd) := (f_X0_counts_35 m0 (0 : Int32) σ)
def f_X0_counts (m0 : Nat) (a1 : Int32) (a2 : Int32) (σ : Wd) : Option (Int32 × Wd) := bd (f_X6_slot a1 a2 σ) fun r1 σ2 => gd (inb r1 30) (if (σ2.1 m0 1) < (σ2.1 (m0 + 8) (ix r1)) then (f_X0_counts_34 m0 σ2) else (bd (f_X6_slot a1 a2 σ2) fun r3 σ4 => gd (inb r3 30) (if (σ4.1 (m0 + 9) (ix r3)) ≤ 0 then (f_X0_counts_34 m0 σ4) else (f_X0_counts_35 m0 (1 : Int32) σ4))))
set_option maxRecDepth 20000 in
set_option maxHeartbeats 1000000 in
theorem b_X0_counts_35 {K : Kt} {m0 : Nat}  (hO : Ok K cX0_counts RX0 3 rm_X0_counts) (hR : Rt K (some .boolean)) (hm0 : isM m0)  (s0 : Int32) (σ : Wd)  : Cm K 3 (0, 0) (f_X0_counts_35 m0 s0 σ) σ 35 [] [.int s0] := by
  exact r_zret hO hR dX0_counts_35
set_option maxRecDepth 20000 in
set_option maxHeartbeats 1000000 in
theorem b_X0_counts_34 {K : Kt} {m0 : Nat}  (hO : Ok K cX0_counts RX0 3 rm_X0_counts) (hR : Rt K (some .boolean)) (hm0 : isM m0)   (σ : Wd)  : Cm K 3 (0, 0) (f_X0_counts_34 m0  σ) σ 34 [] [] := by
  refine r_iconst hO ci_0 dX0_counts_34 ?_
  exact r_jmp (b_X0_counts_35 hO hR hm0 (0 : Int32) σ) lsub_n
set_option maxRecDepth 20000 in
set_option maxHeartbeats 1000000 in
theorem b_X0_counts {K : Kt} {m0 : Nat} (hO : Ok K cX0_counts RX0 3 rm_X0_counts) (hR : Rt K (some .boolean)) (hm0 : isM m0) (a1 : Int32) (a2 : Int32) (σ : Wd) : Cm K 3 (0, 0) (f_X0_counts m0 a1 a2 σ) σ 0 [(0, .ref (K.G.A m0)), (1, .int a1), (2, .int a2)] [] := by
  refine r_aload_n (i := 0) hO rfl rfl dX0_counts_0 ?_
  refine gX0_38 hO hm0 dX0_counts_1 ?_
  refine r_iload_n (i := 1) hO rfl rfl dX0_counts_4 ?_
  refine r_iload_n (i := 2) hO rfl rfl dX0_counts_5 ?_
  refine kN_X6_slot hO a_7 rfl ⟨rfl, rfl, Nat.le_refl _, Nat.le_refl _⟩ dX0_counts_6 ?_
  intro r1 σ2
  refine r_iald hO (sM_8 hm0) dX0_counts_9 ?_
  refine r_aload_n (i := 0) hO rfl rfl dX0_counts_10 ?_
  refine gX0_56 hO hm0 dX0_counts_11 ?_
  refine r_icmp_gt (tgt := 34) hO dX0_counts_14 (by decide) ?_ ?_
  · exact r_jmp (b_X0_counts_34 hO hR hm0 σ2) lsub_n
  · refine r_aload_n (i := 0) hO rfl rfl dX0_counts_17 ?_
    refine gX0_53 hO hm0 dX0_counts_18 ?_
    refine r_iload_n (i := 1) hO rfl rfl dX0_counts_21 ?_
    refine r_iload_n (i := 2) hO rfl rfl dX0_counts_22 ?_
    refine kN_X6_slot hO a_7 rfl ⟨rfl, rfl, Nat.le_refl _, Nat.le_refl _⟩ dX0_counts_23 ?_
    intro r3 σ4
    refine r_iald hO (sM_9 hm0) dX0_counts_26 ?_
    refine r_if_le (tgt := 34) hO dX0_counts_27 (by decide) ?_ ?_
    · exact r_jmp (b_X0_counts_34 hO hR hm0 σ4) lsub_n
    · refine r_iconst hO ci_1 dX0_counts_30 ?_
      refine r_goto (tgt := 35) hO dX0_counts_31 (by decide) ?_
      exact r_jmp (b_X0_counts_35 hO hR hm0 (1 : Int32) σ4) lsub_n
theorem c_X0_counts {l : Launch} {G : Gh} {m0 : Nat} (hm0 : isM m0) (a1 : Int32) (a2 : Int32) (σ : Wd) : Con l G yX0_counts cX0_counts 3 (some .boolean) 1 21 [.ref (G.A m0), .int a1, .int a2] σ (f_X0_counts m0 a1 a2 σ) := Con.of (plainFor_of_name (by decide)) rfl (Nat.le_of_ble_eq_true rfl) (fun K hl hG hO hR => by subst hl; subst hG; exact b_X0_counts hO hR hm0 a1 a2 σ)
theorem cal_X0_counts : CalS yX0_counts cX0_counts 3 (some .boolean) 3 := ⟨a_8, a_9, a_10, by decide, by decide, by decide +kernel⟩
theorem k_X0_counts {K : Kt} {nL : Nat} {cs : Nat × Nat} {σ : Wd} {pc : Nat} {lv : List (Nat × Value)} {st : List Value} {cc : ByteArray} {own : String} {rm : Room} {index : Nat} {g : Int32 → Wd → Option (Int32 × Wd)} {m0 : Nat} {a1 : Int32} {a2 : Int32} (hO : Ok K cc own nL rm) (hm0 : isM m0) (hl : Cond.methodLink own index yX0_counts ∈ gtb) (hcat : Nat.ble ((st.map fun v => v.category).sum) 8 = true) (hR : RoomOk rm cs 1 21 3) (d : decode cc pc = .ok (.invokestatic index, 3)) (kk : ∀ (r : Int32) (σ : Wd), Cm K nL cs (g r σ) σ (pc + 3) lv (.int r :: st)) : Cm K nL cs (bd (f_X0_counts m0 a1 a2 σ) g) σ pc lv (.int a2 :: .int a1 :: .ref (K.G.A m0) :: st) := r_cSi hO (c_X0_counts hm0 a1 a2 σ) cal_X0_counts hl rfl rfl hcat hR d kk
/-! OrderSplit_Bounds.nextMarginal -/
def f_X0_nextMarginal_71 (m0 : Nat) (k5 : Int32 → Int32 → Int32 → Wd → Option (Int32 × Wd)) (k16 : Int32 → Int32 → Int32 → Int32 → Wd → Option (Int32 × Wd)) (x1 : Int32) (x2 : Int32) (x3 : Int32) (x4 : Int32) (σ : Wd) : Option (Int32 × Wd) := (k16 x1 x2 x3 (x4 + (1 : Int32)) σ)
def f_X0_nextMarginal_16 (m0 : Nat) (k5 : Int32 → Int32 → Int32 → Wd → Option (Int32 × Wd)) : Nat → Int32 → Int32 → Int32 → Int32 → Wd → Option (Int32 × Wd)
  | 0 => fun _ _ _ _ _ => none
  | n + 1 => fun x1 x2 x3 x4 σ => gd (inb x3 5) (if (σ.1 (m0 + 6) (ix x3)) ≤ x4 then (k5 x1 x2 (x3 + (1 : Int32)) σ) else (bd (f_X6_slot x3 x4 σ) fun r1 σ2 => gd (inb r1 30) (bd (f_X3_leastUnitFee m0 x3 σ2) fun r3 σ4 => bd (f_X0_counts m0 x3 x4 σ4) fun r5 σ6 => if r5 = 0 then (f_X0_nextMarginal_71 m0 k5 (f_X0_nextMarginal_16 m0 k5 n) x1 x2 x3 x4 σ6) else (if ((σ2.1 (m0 + 8) (ix r1)) + r3) ≤ x1 then (f_X0_nextMarginal_71 m0 k5 (f_X0_nextMarginal_16 m0 k5 n) x1 x2 x3 x4 σ6) else (if x2 ≤ ((σ2.1 (m0 + 8) (ix r1)) + r3) then (f_X0_nextMarginal_71 m0 k5 (f_X0_nextMarginal_16 m0 k5 n) x1 x2 x3 x4 σ6) else (f_X0_nextMarginal_71 m0 k5 (f_X0_nextMarginal_16 m0 k5 n) x1 ((σ2.1 (m0 + 8) (ix r1)) + r3) x3 x4 σ6))))))
def f_X0_nextMarginal_5 (m0 : Nat)  : Nat → Int32 → Int32 → Int32 → Wd → Option (Int32 × Wd)
  | 0 => fun _ _ _ _ => none
  | n + 1 => fun x1 x2 x3 σ => if (σ.1 m0 3) ≤ x3 then (some (x2, σ)) else (f_X0_nextMarginal_16 m0 (f_X0_nextMarginal_5 m0 n) FU x1 x2 x3 (0 : Int32) σ)
def f_X0_nextMarginal (m0 : Nat) (a1 : Int32) (σ : Wd) : Option (Int32 × Wd) := (f_X0_nextMarginal_5 m0 FU a1 (2147483647 : Int32) (0 : Int32) σ)
set_option maxRecDepth 20000 in
set_option maxHeartbeats 1000000 in
theorem b_X0_nextMarginal_71 {K : Kt} {m0 : Nat} {k5 : Int32 → Int32 → Int32 → Wd → Option (Int32 × Wd)} {k16 : Int32 → Int32 → Int32 → Int32 → Wd → Option (Int32 × Wd)} (hO : Ok K cX0_nextMarginal RX0 6 rm_X0_nextMarginal) (hR : Rt K (some .int)) (hm0 : isM m0)  (hk5 : ∀ (x1 : Int32) (x2 : Int32) (x3 : Int32) (σ : Wd), Cm K 6 (0, 0) (k5 x1 x2 x3 σ) σ 5 [(0, .ref (K.G.A m0)), (1, .int x1), (2, .int x2), (3, .int x3)] []) (hk16 : ∀ (x1 : Int32) (x2 : Int32) (x3 : Int32) (x4 : Int32) (σ : Wd), Cm K 6 (0, 0) (k16 x1 x2 x3 x4 σ) σ 16 [(0, .ref (K.G.A m0)), (1, .int x1), (2, .int x2), (3, .int x3), (4, .int x4)] []) (x1 : Int32) (x2 : Int32) (x3 : Int32) (x4 : Int32) (σ : Wd)  : Cm K 6 (0, 0) (f_X0_nextMarginal_71 m0 k5 k16 x1 x2 x3 x4 σ) σ 71 [(0, .ref (K.G.A m0)), (1, .int x1), (2, .int x2), (3, .int x3), (4, .int x4)] [] := by
  refine r_iinc hO rfl ci_1 rfl rfl dX0_nextMarginal_71 ?_
  refine r_goto (tgt := 16) hO dX0_nextMarginal_74 (by decide) ?_
  exact r_jmp (hk16 x1 x2 x3 (x4 + (1 : Int32)) σ) (lsub_c rfl (lsub_c rfl (lsub_c rfl (lsub_c rfl (lsub_c rfl lsub_n)))))
set_option maxRecDepth 20000 in
set_option maxHeartbeats 1000000 in
theorem b_X0_nextMarginal_16 {K : Kt} {m0 : Nat} {k5 : Int32 → Int32 → Int32 → Wd → Option (Int32 × Wd)} (hO : Ok K cX0_nextMarginal RX0 6 rm_X0_nextMarginal) (hR : Rt K (some .int)) (hm0 : isM m0)  (hk5 : ∀ (x1 : Int32) (x2 : Int32) (x3 : Int32) (σ : Wd), Cm K 6 (0, 0) (k5 x1 x2 x3 σ) σ 5 [(0, .ref (K.G.A m0)), (1, .int x1), (2, .int x2), (3, .int x3)] []) : ∀ (n : Nat) (x1 : Int32) (x2 : Int32) (x3 : Int32) (x4 : Int32) (σ : Wd) , Cm K 6 (0, 0) (f_X0_nextMarginal_16 m0 k5 n x1 x2 x3 x4 σ) σ 16 [(0, .ref (K.G.A m0)), (1, .int x1), (2, .int x2), (3, .int x3), (4, .int x4)] [] := by
  intro n
  induction n with
  | zero => intro x1 x2 x3 x4 σ ; exact r_none
  | succ n ih =>
    intro x1 x2 x3 x4 σ 
    refine r_iload hO (d := dX0_nextMarginal_16) rfl ?_
    refine r_aload_n (i := 0) hO rfl rfl dX0_nextMarginal_18 ?_
    refine gX0_34 hO hm0 dX0_nextMarginal_19 ?_
    refine r_iload_n (i := 3) hO rfl rfl dX0_nextMarginal_22 ?_
    refine r_iald hO (sM_6 hm0) dX0_nextMarginal_23 ?_
    refine r_icmp_ge (tgt := 77) hO dX0_nextMarginal_24 (by decide) ?_ ?_
    · refine r_iinc hO rfl ci_1 rfl rfl dX0_nextMarginal_77 ?_
      refine r_goto (tgt := 5) hO dX0_nextMarginal_80 (by decide) ?_
      exact r_jmp (hk5 x1 x2 (x3 + (1 : Int32)) σ) (lsub_c rfl (lsub_c rfl (lsub_c rfl (lsub_c rfl lsub_n))))
    · refine r_aload_n (i := 0) hO rfl rfl dX0_nextMarginal_27 ?_
      refine gX0_38 hO hm0 dX0_nextMarginal_28 ?_
      refine r_iload_n (i := 3) hO rfl rfl dX0_nextMarginal_31 ?_
      refine r_iload hO (d := dX0_nextMarginal_32) rfl ?_
      refine kN_X6_slot hO a_7 rfl ⟨rfl, rfl, Nat.le_refl _, Nat.le_refl _⟩ dX0_nextMarginal_34 ?_
      intro r1 σ2
      refine r_iald hO (sM_8 hm0) dX0_nextMarginal_37 ?_
      refine r_aload_n (i := 0) hO rfl rfl dX0_nextMarginal_38 ?_
      refine r_iload_n (i := 3) hO rfl rfl dX0_nextMarginal_39 ?_
      refine k_X3_leastUnitFee hO hm0 a_12 rfl ⟨rfl, rfl, Nat.le_refl _, Nat.le_refl _⟩ dX0_nextMarginal_40 ?_
      intro r3 σ4
      refine r_iadd hO dX0_nextMarginal_43 ?_
      refine r_istore hO rfl rfl dX0_nextMarginal_44 ?_
      refine r_aload_n (i := 0) hO rfl rfl dX0_nextMarginal_46 ?_
      refine r_iload_n (i := 3) hO rfl rfl dX0_nextMarginal_47 ?_
      refine r_iload hO (d := dX0_nextMarginal_48) rfl ?_
      refine k_X0_counts hO hm0 a_13 rfl ⟨rfl, rfl, Nat.le_refl _, Nat.le_refl _⟩ dX0_nextMarginal_50 ?_
      intro r5 σ6
      refine r_if_eq (tgt := 71) hO dX0_nextMarginal_53 (by decide) ?_ ?_
      · exact r_jmp (b_X0_nextMarginal_71 hO hR hm0 hk5 ih x1 x2 x3 x4 σ6) (lsub_c rfl (lsub_c rfl (lsub_c rfl (lsub_c rfl (lsub_c rfl lsub_n)))))
      · refine r_iload hO (d := dX0_nextMarginal_56) rfl ?_
        refine r_iload_n (i := 1) hO rfl rfl dX0_nextMarginal_58 ?_
        refine r_icmp_le (tgt := 71) hO dX0_nextMarginal_59 (by decide) ?_ ?_
        · exact r_jmp (b_X0_nextMarginal_71 hO hR hm0 hk5 ih x1 x2 x3 x4 σ6) (lsub_c rfl (lsub_c rfl (lsub_c rfl (lsub_c rfl (lsub_c rfl lsub_n)))))
        · refine r_iload hO (d := dX0_nextMarginal_62) rfl ?_
          refine r_iload_n (i := 2) hO rfl rfl dX0_nextMarginal_64 ?_
          refine r_icmp_ge (tgt := 71) hO dX0_nextMarginal_65 (by decide) ?_ ?_
          · exact r_jmp (b_X0_nextMarginal_71 hO hR hm0 hk5 ih x1 x2 x3 x4 σ6) (lsub_c rfl (lsub_c rfl (lsub_c rfl (lsub_c rfl (lsub_c rfl lsub_n)))))
          · refine r_iload hO (d := dX0_nextMarginal_68) rfl ?_
            refine r_istore_n (i := 2) hO rfl rfl rfl dX0_nextMarginal_70 ?_
            exact r_jmp (b_X0_nextMarginal_71 hO hR hm0 hk5 ih x1 ((σ2.1 (m0 + 8) (ix r1)) + r3) x3 x4 σ6) (lsub_c rfl (lsub_c rfl (lsub_c rfl (lsub_c rfl (lsub_c rfl lsub_n)))))
set_option maxRecDepth 20000 in
set_option maxHeartbeats 1000000 in
theorem b_X0_nextMarginal_5 {K : Kt} {m0 : Nat}  (hO : Ok K cX0_nextMarginal RX0 6 rm_X0_nextMarginal) (hR : Rt K (some .int)) (hm0 : isM m0)  : ∀ (n : Nat) (x1 : Int32) (x2 : Int32) (x3 : Int32) (σ : Wd) , Cm K 6 (0, 0) (f_X0_nextMarginal_5 m0 n x1 x2 x3 σ) σ 5 [(0, .ref (K.G.A m0)), (1, .int x1), (2, .int x2), (3, .int x3)] [] := by
  intro n
  induction n with
  | zero => intro x1 x2 x3 σ ; exact r_none
  | succ n ih =>
    intro x1 x2 x3 σ 
    refine r_iload_n (i := 3) hO rfl rfl dX0_nextMarginal_5 ?_
    refine r_aload_n (i := 0) hO rfl rfl dX0_nextMarginal_6 ?_
    refine gX0_29 hO hm0 dX0_nextMarginal_7 ?_
    refine r_icmp_ge (tgt := 83) hO dX0_nextMarginal_10 (by decide) ?_ ?_
    · refine r_iload_n (i := 2) hO rfl rfl dX0_nextMarginal_83 ?_
      exact r_iret hO hR dX0_nextMarginal_84
    · refine r_iconst hO ci_0 dX0_nextMarginal_13 ?_
      refine r_istore hO rfl rfl dX0_nextMarginal_14 ?_
      exact r_jmp (b_X0_nextMarginal_16 hO hR hm0 ih FU x1 x2 x3 (0 : Int32) σ) (lsub_c rfl (lsub_c rfl (lsub_c rfl (lsub_c rfl (lsub_c rfl lsub_n)))))
set_option maxRecDepth 20000 in
set_option maxHeartbeats 1000000 in
theorem b_X0_nextMarginal {K : Kt} {m0 : Nat} (hO : Ok K cX0_nextMarginal RX0 6 rm_X0_nextMarginal) (hR : Rt K (some .int)) (hm0 : isM m0) (a1 : Int32) (σ : Wd) : Cm K 6 (0, 0) (f_X0_nextMarginal m0 a1 σ) σ 0 [(0, .ref (K.G.A m0)), (1, .int a1)] [] := by
  refine r_ldc hO a_11 dX0_nextMarginal_0 ?_
  refine r_istore_n (i := 2) hO rfl rfl rfl dX0_nextMarginal_2 ?_
  refine r_iconst hO ci_0 dX0_nextMarginal_3 ?_
  refine r_istore_n (i := 3) hO rfl rfl rfl dX0_nextMarginal_4 ?_
  exact r_jmp (b_X0_nextMarginal_5 hO hR hm0 FU a1 (2147483647 : Int32) (0 : Int32) σ) (lsub_c rfl (lsub_c rfl (lsub_c rfl (lsub_c rfl lsub_n))))
theorem c_X0_nextMarginal {l : Launch} {G : Gh} {m0 : Nat} (hm0 : isM m0) (a1 : Int32) (σ : Wd) : Con l G yX0_nextMarginal cX0_nextMarginal 6 (some .int) 2 43 [.ref (G.A m0), .int a1] σ (f_X0_nextMarginal m0 a1 σ) := Con.of (plainFor_of_name (by decide)) rfl (Nat.le_of_ble_eq_true rfl) (fun K hl hG hO hR => by subst hl; subst hG; exact b_X0_nextMarginal hO hR hm0 a1 σ)
theorem cal_X0_nextMarginal : CalS yX0_nextMarginal cX0_nextMarginal 6 (some .int) 2 := ⟨a_14, a_15, a_10, by decide, by decide, by decide +kernel⟩
theorem k_X0_nextMarginal {K : Kt} {nL : Nat} {cs : Nat × Nat} {σ : Wd} {pc : Nat} {lv : List (Nat × Value)} {st : List Value} {cc : ByteArray} {own : String} {rm : Room} {index : Nat} {g : Int32 → Wd → Option (Int32 × Wd)} {m0 : Nat} {a1 : Int32} (hO : Ok K cc own nL rm) (hm0 : isM m0) (hl : Cond.methodLink own index yX0_nextMarginal ∈ gtb) (hcat : Nat.ble ((st.map fun v => v.category).sum) 8 = true) (hR : RoomOk rm cs 2 43 6) (d : decode cc pc = .ok (.invokestatic index, 3)) (kk : ∀ (r : Int32) (σ : Wd), Cm K nL cs (g r σ) σ (pc + 3) lv (.int r :: st)) : Cm K nL cs (bd (f_X0_nextMarginal m0 a1 σ) g) σ pc lv (.int a1 :: .ref (K.G.A m0) :: st) := r_cSi hO (c_X0_nextMarginal hm0 a1 σ) cal_X0_nextMarginal hl rfl rfl hcat hR d kk
/-! OrderSplit_Bounds.unitsAtMarginal -/
def f_X0_unitsAtMarginal_71 (m0 : Nat) (k4 : Int32 → Int32 → Int32 → Wd → Option (Int32 × Wd)) (k15 : Int32 → Int32 → Int32 → Int32 → Wd → Option (Int32 × Wd)) (x1 : Int32) (x2 : Int32) (x3 : Int32) (x4 : Int32) (σ : Wd) : Option (Int32 × Wd) := (k15 x1 x2 x3 (x4 + (1 : Int32)) σ)
def f_X0_unitsAtMarginal_15 (m0 : Nat) (k4 : Int32 → Int32 → Int32 → Wd → Option (Int32 × Wd)) : Nat → Int32 → Int32 → Int32 → Int32 → Wd → Option (Int32 × Wd)
  | 0 => fun _ _ _ _ _ => none
  | n + 1 => fun x1 x2 x3 x4 σ => gd (inb x3 5) (if (σ.1 (m0 + 6) (ix x3)) ≤ x4 then (k4 x1 x2 (x3 + (1 : Int32)) σ) else (bd (f_X0_counts m0 x3 x4 σ) fun r1 σ2 => if r1 = 0 then (f_X0_unitsAtMarginal_71 m0 k4 (f_X0_unitsAtMarginal_15 m0 k4 n) x1 x2 x3 x4 σ2) else (bd (f_X6_slot x3 x4 σ2) fun r3 σ4 => gd (inb r3 30) (bd (f_X3_leastUnitFee m0 x3 σ4) fun r5 σ6 => if ((σ4.1 (m0 + 8) (ix r3)) + r5) = x1 then (bd (f_X6_slot x3 x4 σ6) fun r7 σ8 => gd (inb r7 30) ((f_X0_unitsAtMarginal_71 m0 k4 (f_X0_unitsAtMarginal_15 m0 k4 n) x1 (x2 + (σ8.1 (m0 + 9) (ix r7))) x3 x4 σ8))) else (f_X0_unitsAtMarginal_71 m0 k4 (f_X0_unitsAtMarginal_15 m0 k4 n) x1 x2 x3 x4 σ6)))))
def f_X0_unitsAtMarginal_4 (m0 : Nat)  : Nat → Int32 → Int32 → Int32 → Wd → Option (Int32 × Wd)
  | 0 => fun _ _ _ _ => none
  | n + 1 => fun x1 x2 x3 σ => if (σ.1 m0 3) ≤ x3 then (some (x2, σ)) else (f_X0_unitsAtMarginal_15 m0 (f_X0_unitsAtMarginal_4 m0 n) FU x1 x2 x3 (0 : Int32) σ)
def f_X0_unitsAtMarginal (m0 : Nat) (a1 : Int32) (σ : Wd) : Option (Int32 × Wd) := (f_X0_unitsAtMarginal_4 m0 FU a1 (0 : Int32) (0 : Int32) σ)
set_option maxRecDepth 20000 in
set_option maxHeartbeats 1000000 in
theorem b_X0_unitsAtMarginal_71 {K : Kt} {m0 : Nat} {k4 : Int32 → Int32 → Int32 → Wd → Option (Int32 × Wd)} {k15 : Int32 → Int32 → Int32 → Int32 → Wd → Option (Int32 × Wd)} (hO : Ok K cX0_unitsAtMarginal RX0 5 rm_X0_unitsAtMarginal) (hR : Rt K (some .int)) (hm0 : isM m0)  (hk4 : ∀ (x1 : Int32) (x2 : Int32) (x3 : Int32) (σ : Wd), Cm K 5 (0, 0) (k4 x1 x2 x3 σ) σ 4 [(0, .ref (K.G.A m0)), (1, .int x1), (2, .int x2), (3, .int x3)] []) (hk15 : ∀ (x1 : Int32) (x2 : Int32) (x3 : Int32) (x4 : Int32) (σ : Wd), Cm K 5 (0, 0) (k15 x1 x2 x3 x4 σ) σ 15 [(0, .ref (K.G.A m0)), (1, .int x1), (2, .int x2), (3, .int x3), (4, .int x4)] []) (x1 : Int32) (x2 : Int32) (x3 : Int32) (x4 : Int32) (σ : Wd)  : Cm K 5 (0, 0) (f_X0_unitsAtMarginal_71 m0 k4 k15 x1 x2 x3 x4 σ) σ 71 [(0, .ref (K.G.A m0)), (1, .int x1), (2, .int x2), (3, .int x3), (4, .int x4)] [] := by
  refine r_iinc hO rfl ci_1 rfl rfl dX0_unitsAtMarginal_71 ?_
  refine r_goto (tgt := 15) hO dX0_unitsAtMarginal_74 (by decide) ?_
  exact r_jmp (hk15 x1 x2 x3 (x4 + (1 : Int32)) σ) (lsub_c rfl (lsub_c rfl (lsub_c rfl (lsub_c rfl (lsub_c rfl lsub_n)))))
set_option maxRecDepth 20000 in
set_option maxHeartbeats 1000000 in
theorem b_X0_unitsAtMarginal_15 {K : Kt} {m0 : Nat} {k4 : Int32 → Int32 → Int32 → Wd → Option (Int32 × Wd)} (hO : Ok K cX0_unitsAtMarginal RX0 5 rm_X0_unitsAtMarginal) (hR : Rt K (some .int)) (hm0 : isM m0)  (hk4 : ∀ (x1 : Int32) (x2 : Int32) (x3 : Int32) (σ : Wd), Cm K 5 (0, 0) (k4 x1 x2 x3 σ) σ 4 [(0, .ref (K.G.A m0)), (1, .int x1), (2, .int x2), (3, .int x3)] []) : ∀ (n : Nat) (x1 : Int32) (x2 : Int32) (x3 : Int32) (x4 : Int32) (σ : Wd) , Cm K 5 (0, 0) (f_X0_unitsAtMarginal_15 m0 k4 n x1 x2 x3 x4 σ) σ 15 [(0, .ref (K.G.A m0)), (1, .int x1), (2, .int x2), (3, .int x3), (4, .int x4)] [] := by
  intro n
  induction n with
  | zero => intro x1 x2 x3 x4 σ ; exact r_none
  | succ n ih =>
    intro x1 x2 x3 x4 σ 
    refine r_iload hO (d := dX0_unitsAtMarginal_15) rfl ?_
    refine r_aload_n (i := 0) hO rfl rfl dX0_unitsAtMarginal_17 ?_
    refine gX0_34 hO hm0 dX0_unitsAtMarginal_18 ?_
    refine r_iload_n (i := 3) hO rfl rfl dX0_unitsAtMarginal_21 ?_
    refine r_iald hO (sM_6 hm0) dX0_unitsAtMarginal_22 ?_
    refine r_icmp_ge (tgt := 77) hO dX0_unitsAtMarginal_23 (by decide) ?_ ?_
    · refine r_iinc hO rfl ci_1 rfl rfl dX0_unitsAtMarginal_77 ?_
      refine r_goto (tgt := 4) hO dX0_unitsAtMarginal_80 (by decide) ?_
      exact r_jmp (hk4 x1 x2 (x3 + (1 : Int32)) σ) (lsub_c rfl (lsub_c rfl (lsub_c rfl (lsub_c rfl lsub_n))))
    · refine r_aload_n (i := 0) hO rfl rfl dX0_unitsAtMarginal_26 ?_
      refine r_iload_n (i := 3) hO rfl rfl dX0_unitsAtMarginal_27 ?_
      refine r_iload hO (d := dX0_unitsAtMarginal_28) rfl ?_
      refine k_X0_counts hO hm0 a_13 rfl ⟨rfl, rfl, Nat.le_refl _, Nat.le_refl _⟩ dX0_unitsAtMarginal_30 ?_
      intro r1 σ2
      refine r_if_eq (tgt := 71) hO dX0_unitsAtMarginal_33 (by decide) ?_ ?_
      · exact r_jmp (b_X0_unitsAtMarginal_71 hO hR hm0 hk4 ih x1 x2 x3 x4 σ2) (lsub_c rfl (lsub_c rfl (lsub_c rfl (lsub_c rfl (lsub_c rfl lsub_n)))))
      · refine r_aload_n (i := 0) hO rfl rfl dX0_unitsAtMarginal_36 ?_
        refine gX0_38 hO hm0 dX0_unitsAtMarginal_37 ?_
        refine r_iload_n (i := 3) hO rfl rfl dX0_unitsAtMarginal_40 ?_
        refine r_iload hO (d := dX0_unitsAtMarginal_41) rfl ?_
        refine kN_X6_slot hO a_7 rfl ⟨rfl, rfl, Nat.le_refl _, Nat.le_refl _⟩ dX0_unitsAtMarginal_43 ?_
        intro r3 σ4
        refine r_iald hO (sM_8 hm0) dX0_unitsAtMarginal_46 ?_
        refine r_aload_n (i := 0) hO rfl rfl dX0_unitsAtMarginal_47 ?_
        refine r_iload_n (i := 3) hO rfl rfl dX0_unitsAtMarginal_48 ?_
        refine k_X3_leastUnitFee hO hm0 a_12 rfl ⟨rfl, rfl, Nat.le_refl _, Nat.le_refl _⟩ dX0_unitsAtMarginal_49 ?_
        intro r5 σ6
        refine r_iadd hO dX0_unitsAtMarginal_52 ?_
        refine r_iload_n (i := 1) hO rfl rfl dX0_unitsAtMarginal_53 ?_
        refine r_icmp_ne (tgt := 71) hO dX0_unitsAtMarginal_54 (by decide) ?_ ?_
        · refine r_iload_n (i := 2) hO rfl rfl dX0_unitsAtMarginal_57 ?_
          refine r_aload_n (i := 0) hO rfl rfl dX0_unitsAtMarginal_58 ?_
          refine gX0_53 hO hm0 dX0_unitsAtMarginal_59 ?_
          refine r_iload_n (i := 3) hO rfl rfl dX0_unitsAtMarginal_62 ?_
          refine r_iload hO (d := dX0_unitsAtMarginal_63) rfl ?_
          refine kN_X6_slot hO a_7 rfl ⟨rfl, rfl, Nat.le_refl _, Nat.le_refl _⟩ dX0_unitsAtMarginal_65 ?_
          intro r7 σ8
          refine r_iald hO (sM_9 hm0) dX0_unitsAtMarginal_68 ?_
          refine r_iadd hO dX0_unitsAtMarginal_69 ?_
          refine r_istore_n (i := 2) hO rfl rfl rfl dX0_unitsAtMarginal_70 ?_
          exact r_jmp (b_X0_unitsAtMarginal_71 hO hR hm0 hk4 ih x1 (x2 + (σ8.1 (m0 + 9) (ix r7))) x3 x4 σ8) (lsub_c rfl (lsub_c rfl (lsub_c rfl (lsub_c rfl (lsub_c rfl lsub_n)))))
        · exact r_jmp (b_X0_unitsAtMarginal_71 hO hR hm0 hk4 ih x1 x2 x3 x4 σ6) (lsub_c rfl (lsub_c rfl (lsub_c rfl (lsub_c rfl (lsub_c rfl lsub_n)))))
set_option maxRecDepth 20000 in
set_option maxHeartbeats 1000000 in
theorem b_X0_unitsAtMarginal_4 {K : Kt} {m0 : Nat}  (hO : Ok K cX0_unitsAtMarginal RX0 5 rm_X0_unitsAtMarginal) (hR : Rt K (some .int)) (hm0 : isM m0)  : ∀ (n : Nat) (x1 : Int32) (x2 : Int32) (x3 : Int32) (σ : Wd) , Cm K 5 (0, 0) (f_X0_unitsAtMarginal_4 m0 n x1 x2 x3 σ) σ 4 [(0, .ref (K.G.A m0)), (1, .int x1), (2, .int x2), (3, .int x3)] [] := by
  intro n
  induction n with
  | zero => intro x1 x2 x3 σ ; exact r_none
  | succ n ih =>
    intro x1 x2 x3 σ 
    refine r_iload_n (i := 3) hO rfl rfl dX0_unitsAtMarginal_4 ?_
    refine r_aload_n (i := 0) hO rfl rfl dX0_unitsAtMarginal_5 ?_
    refine gX0_29 hO hm0 dX0_unitsAtMarginal_6 ?_
    refine r_icmp_ge (tgt := 83) hO dX0_unitsAtMarginal_9 (by decide) ?_ ?_
    · refine r_iload_n (i := 2) hO rfl rfl dX0_unitsAtMarginal_83 ?_
      exact r_iret hO hR dX0_unitsAtMarginal_84
    · refine r_iconst hO ci_0 dX0_unitsAtMarginal_12 ?_
      refine r_istore hO rfl rfl dX0_unitsAtMarginal_13 ?_
      exact r_jmp (b_X0_unitsAtMarginal_15 hO hR hm0 ih FU x1 x2 x3 (0 : Int32) σ) (lsub_c rfl (lsub_c rfl (lsub_c rfl (lsub_c rfl (lsub_c rfl lsub_n)))))
set_option maxRecDepth 20000 in
set_option maxHeartbeats 1000000 in
theorem b_X0_unitsAtMarginal {K : Kt} {m0 : Nat} (hO : Ok K cX0_unitsAtMarginal RX0 5 rm_X0_unitsAtMarginal) (hR : Rt K (some .int)) (hm0 : isM m0) (a1 : Int32) (σ : Wd) : Cm K 5 (0, 0) (f_X0_unitsAtMarginal m0 a1 σ) σ 0 [(0, .ref (K.G.A m0)), (1, .int a1)] [] := by
  refine r_iconst hO ci_0 dX0_unitsAtMarginal_0 ?_
  refine r_istore_n (i := 2) hO rfl rfl rfl dX0_unitsAtMarginal_1 ?_
  refine r_iconst hO ci_0 dX0_unitsAtMarginal_2 ?_
  refine r_istore_n (i := 3) hO rfl rfl rfl dX0_unitsAtMarginal_3 ?_
  exact r_jmp (b_X0_unitsAtMarginal_4 hO hR hm0 FU a1 (0 : Int32) (0 : Int32) σ) (lsub_c rfl (lsub_c rfl (lsub_c rfl (lsub_c rfl lsub_n))))
theorem c_X0_unitsAtMarginal {l : Launch} {G : Gh} {m0 : Nat} (hm0 : isM m0) (a1 : Int32) (σ : Wd) : Con l G yX0_unitsAtMarginal cX0_unitsAtMarginal 5 (some .int) 2 43 [.ref (G.A m0), .int a1] σ (f_X0_unitsAtMarginal m0 a1 σ) := Con.of (plainFor_of_name (by decide)) rfl (Nat.le_of_ble_eq_true rfl) (fun K hl hG hO hR => by subst hl; subst hG; exact b_X0_unitsAtMarginal hO hR hm0 a1 σ)
theorem cal_X0_unitsAtMarginal : CalS yX0_unitsAtMarginal cX0_unitsAtMarginal 5 (some .int) 2 := ⟨a_16, a_17, a_10, by decide, by decide, by decide +kernel⟩
theorem k_X0_unitsAtMarginal {K : Kt} {nL : Nat} {cs : Nat × Nat} {σ : Wd} {pc : Nat} {lv : List (Nat × Value)} {st : List Value} {cc : ByteArray} {own : String} {rm : Room} {index : Nat} {g : Int32 → Wd → Option (Int32 × Wd)} {m0 : Nat} {a1 : Int32} (hO : Ok K cc own nL rm) (hm0 : isM m0) (hl : Cond.methodLink own index yX0_unitsAtMarginal ∈ gtb) (hcat : Nat.ble ((st.map fun v => v.category).sum) 8 = true) (hR : RoomOk rm cs 2 43 5) (d : decode cc pc = .ok (.invokestatic index, 3)) (kk : ∀ (r : Int32) (σ : Wd), Cm K nL cs (g r σ) σ (pc + 3) lv (.int r :: st)) : Cm K nL cs (bd (f_X0_unitsAtMarginal m0 a1 σ) g) σ pc lv (.int a1 :: .ref (K.G.A m0) :: st) := r_cSi hO (c_X0_unitsAtMarginal hm0 a1 σ) cal_X0_unitsAtMarginal hl rfl rfl hcat hR d kk
/-! OrderSplit_Bounds.measure -/
def f_X0_measure_65 (m1 : Nat) (k20 : Int32 → Int32 → Int32 → Wd → Option (Int32 × Wd)) (x3 : Int32) (x5 : Int32) (x6 : Int32) (s0 : Int32) (σ : Wd) : Option (Int32 × Wd) := nmW (wi σ 10 0 ((σ.1 10 0) + (s0 * x6))) fun σ1 => nmW (wi σ1 10 1 x6) fun σ2 => (k20 (x3 - s0) x6 (x5 + (1 : Int32)) σ2)
def f_X0_measure_102 (m1 : Nat)   (σ : Wd) : Option (Int32 × Wd) := some (0, σ)
def f_X0_measure_20 (m1 : Nat)  : Nat → Int32 → Int32 → Int32 → Wd → Option (Int32 × Wd)
  | 0 => fun _ _ _ _ => none
  | n + 1 => fun x3 x4 x5 σ => if (30 : Int32) ≤ x5 then (f_X0_measure_102 m1 σ) else (if x3 ≤ 0 then (f_X0_measure_102 m1 σ) else (bd (f_X0_nextMarginal m1 x4 σ) fun r1 σ2 => bd (f_X0_unitsAtMarginal m1 r1 σ2) fun r3 σ4 => if r3 = 0 then (some (0, σ4)) else (if x3 ≤ r3 then (f_X0_measure_65 m1 (f_X0_measure_20 m1 n) x3 x5 r1 x3 σ4) else (f_X0_measure_65 m1 (f_X0_measure_20 m1 n) x3 x5 r1 r3 σ4))))
def f_X0_measure (m1 : Nat) (a2 : Int32) (σ : Wd) : Option (Int32 × Wd) := nmW (wi σ 10 0 (0 : Int32)) fun σ1 => nmW (wi σ1 10 1 (-2147483648 : Int32)) fun σ2 => (f_X0_measure_20 m1 FU a2 (-2147483648 : Int32) (0 : Int32) σ2)
set_option maxRecDepth 20000 in
set_option maxHeartbeats 1000000 in
theorem b_X0_measure_65 {K : Kt} {m1 : Nat} {k20 : Int32 → Int32 → Int32 → Wd → Option (Int32 × Wd)} (hO : Ok K cX0_measure RX0 9 rm_X0_measure) (hR : Rt K none) (hm1 : isM m1)  (hk20 : ∀ (x3 : Int32) (x4 : Int32) (x5 : Int32) (σ : Wd), Cm K 9 (0, 0) (k20 x3 x4 x5 σ) σ 20 [(0, .ref (K.G.A 10)), (1, .ref (K.G.A m1)), (3, .int x3), (4, .int x4), (5, .int x5)] []) (x3 : Int32) (x5 : Int32) (x6 : Int32) (s0 : Int32) (σ : Wd)  : Cm K 9 (0, 0) (f_X0_measure_65 m1 k20 x3 x5 x6 s0 σ) σ 65 [(0, .ref (K.G.A 10)), (1, .ref (K.G.A m1)), (3, .int x3), (5, .int x5), (6, .int x6)] [.int s0] := by
  refine r_istore hO rfl rfl dX0_measure_65 ?_
  refine r_aload_n (i := 0) hO rfl rfl dX0_measure_67 ?_
  refine r_dup hO rfl dX0_measure_68 ?_
  refine gX0_9 hO dX0_measure_69 ?_
  refine r_iload hO (d := dX0_measure_72) rfl ?_
  refine r_iload hO (d := dX0_measure_74) rfl ?_
  refine r_imul hO dX0_measure_76 ?_
  refine r_iadd hO dX0_measure_77 ?_
  refine pX0_9 hO dX0_measure_78 ?_
  refine r_nmW fun σ1 => ?_
  refine r_iload_n (i := 3) hO rfl rfl dX0_measure_81 ?_
  refine r_iload hO (d := dX0_measure_82) rfl ?_
  refine r_isub hO dX0_measure_84 ?_
  refine r_istore_n (i := 3) hO rfl rfl rfl dX0_measure_85 ?_
  refine r_aload_n (i := 0) hO rfl rfl dX0_measure_86 ?_
  refine r_iload hO (d := dX0_measure_87) rfl ?_
  refine pX0_16 hO dX0_measure_89 ?_
  refine r_nmW fun σ2 => ?_
  refine r_iload hO (d := dX0_measure_92) rfl ?_
  refine r_istore hO rfl rfl dX0_measure_94 ?_
  refine r_iinc hO rfl ci_1 rfl rfl dX0_measure_96 ?_
  refine r_goto (tgt := 20) hO dX0_measure_99 (by decide) ?_
  exact r_jmp (hk20 (x3 - s0) x6 (x5 + (1 : Int32)) σ2) (lsub_c rfl (lsub_c rfl (lsub_c rfl (lsub_c rfl (lsub_c rfl lsub_n)))))
set_option maxRecDepth 20000 in
set_option maxHeartbeats 1000000 in
theorem b_X0_measure_102 {K : Kt} {m1 : Nat}  (hO : Ok K cX0_measure RX0 9 rm_X0_measure) (hR : Rt K none) (hm1 : isM m1)   (σ : Wd)  : Cm K 9 (0, 0) (f_X0_measure_102 m1  σ) σ 102 [] [] := by
  exact r_vret hO hR dX0_measure_102
set_option maxRecDepth 20000 in
set_option maxHeartbeats 1000000 in
theorem b_X0_measure_20 {K : Kt} {m1 : Nat}  (hO : Ok K cX0_measure RX0 9 rm_X0_measure) (hR : Rt K none) (hm1 : isM m1)  : ∀ (n : Nat) (x3 : Int32) (x4 : Int32) (x5 : Int32) (σ : Wd) , Cm K 9 (0, 0) (f_X0_measure_20 m1 n x3 x4 x5 σ) σ 20 [(0, .ref (K.G.A 10)), (1, .ref (K.G.A m1)), (3, .int x3), (4, .int x4), (5, .int x5)] [] := by
  intro n
  induction n with
  | zero => intro x3 x4 x5 σ ; exact r_none
  | succ n ih =>
    intro x3 x4 x5 σ 
    refine r_iload hO (d := dX0_measure_20) rfl ?_
    refine r_bipush hO bi_30 dX0_measure_22 ?_
    refine r_icmp_ge (tgt := 102) hO dX0_measure_24 (by decide) ?_ ?_
    · exact r_jmp (b_X0_measure_102 hO hR hm1 σ) lsub_n
    · refine r_iload_n (i := 3) hO rfl rfl dX0_measure_27 ?_
      refine r_if_le (tgt := 102) hO dX0_measure_28 (by decide) ?_ ?_
      · exact r_jmp (b_X0_measure_102 hO hR hm1 σ) lsub_n
      · refine r_aload_n (i := 1) hO rfl rfl dX0_measure_31 ?_
        refine r_iload hO (d := dX0_measure_32) rfl ?_
        refine k_X0_nextMarginal hO hm1 a_19 rfl ⟨rfl, rfl, Nat.le_refl _, Nat.le_refl _⟩ dX0_measure_34 ?_
        intro r1 σ2
        refine r_istore hO rfl rfl dX0_measure_37 ?_
        refine r_aload_n (i := 1) hO rfl rfl dX0_measure_39 ?_
        refine r_iload hO (d := dX0_measure_40) rfl ?_
        refine k_X0_unitsAtMarginal hO hm1 a_20 rfl ⟨rfl, rfl, Nat.le_refl _, Nat.le_refl _⟩ dX0_measure_42 ?_
        intro r3 σ4
        refine r_istore hO rfl rfl dX0_measure_45 ?_
        refine r_iload hO (d := dX0_measure_47) rfl ?_
        refine r_if_ne (tgt := 53) hO dX0_measure_49 (by decide) ?_ ?_
        · exact r_vret hO hR dX0_measure_52
        · refine r_iload hO (d := dX0_measure_53) rfl ?_
          refine r_iload_n (i := 3) hO rfl rfl dX0_measure_55 ?_
          refine r_icmp_ge (tgt := 64) hO dX0_measure_56 (by decide) ?_ ?_
          · refine r_iload_n (i := 3) hO rfl rfl dX0_measure_64 ?_
            exact r_jmp (b_X0_measure_65 hO hR hm1 ih x3 x5 r1 x3 σ4) (lsub_c rfl (lsub_c rfl (lsub_c rfl (lsub_c rfl (lsub_c rfl lsub_n)))))
          · refine r_iload hO (d := dX0_measure_59) rfl ?_
            refine r_goto (tgt := 65) hO dX0_measure_61 (by decide) ?_
            exact r_jmp (b_X0_measure_65 hO hR hm1 ih x3 x5 r1 r3 σ4) (lsub_c rfl (lsub_c rfl (lsub_c rfl (lsub_c rfl (lsub_c rfl lsub_n)))))
set_option maxRecDepth 20000 in
set_option maxHeartbeats 1000000 in
theorem b_X0_measure {K : Kt} {m1 : Nat} (hO : Ok K cX0_measure RX0 9 rm_X0_measure) (hR : Rt K none) (hm1 : isM m1) (a2 : Int32) (σ : Wd) : Cm K 9 (0, 0) (f_X0_measure m1 a2 σ) σ 0 [(0, .ref (K.G.A 10)), (1, .ref (K.G.A m1)), (2, .int a2)] [] := by
  refine r_aload_n (i := 0) hO rfl rfl dX0_measure_0 ?_
  refine r_iconst hO ci_0 dX0_measure_1 ?_
  refine pX0_9 hO dX0_measure_2 ?_
  refine r_nmW fun σ1 => ?_
  refine r_aload_n (i := 0) hO rfl rfl dX0_measure_5 ?_
  refine r_ldc hO a_18 dX0_measure_6 ?_
  refine pX0_16 hO dX0_measure_8 ?_
  refine r_nmW fun σ2 => ?_
  refine r_iload_n (i := 2) hO rfl rfl dX0_measure_11 ?_
  refine r_istore_n (i := 3) hO rfl rfl rfl dX0_measure_12 ?_
  refine r_ldc hO a_18 dX0_measure_13 ?_
  refine r_istore hO rfl rfl dX0_measure_15 ?_
  refine r_iconst hO ci_0 dX0_measure_17 ?_
  refine r_istore hO rfl rfl dX0_measure_18 ?_
  exact r_jmp (b_X0_measure_20 hO hR hm1 FU a2 (-2147483648 : Int32) (0 : Int32) σ2) (lsub_c rfl (lsub_c rfl (lsub_c rfl (lsub_c rfl (lsub_c rfl lsub_n)))))
theorem c_X0_measure {l : Launch} {G : Gh} {m1 : Nat} (hm1 : isM m1) (a2 : Int32) (σ : Wd) : Con l G yX0_measure cX0_measure 9 none 3 68 [.ref (G.A 10), .ref (G.A m1), .int a2] σ (f_X0_measure m1 a2 σ) := Con.of (plainFor_of_name (by decide)) rfl (Nat.le_of_ble_eq_true rfl) (fun K hl hG hO hR => by subst hl; subst hG; exact b_X0_measure hO hR hm1 a2 σ)
theorem cal_X0_measure : CalV yX0_measure cX0_measure 9 none 2 := ⟨a_21, a_22, a_23, a_10, by decide, by decide, by decide +kernel⟩
theorem k_X0_measure {K : Kt} {nL : Nat} {cs : Nat × Nat} {σ : Wd} {pc : Nat} {lv : List (Nat × Value)} {st : List Value} {cc : ByteArray} {own : String} {rm : Room} {index : Nat} {g : Int32 → Wd → Option (Int32 × Wd)} {m1 : Nat} {a2 : Int32} (hO : Ok K cc own nL rm) (hm1 : isM m1) (hl : Cond.methodLink own index yX0_measure ∈ gtb) (hcat : Nat.ble ((st.map fun v => v.category).sum) 8 = true) (hR : RoomOk rm cs 3 68 9) (d : decode cc pc = .ok (.invokevirtual index, 3)) (kk : ∀ (r : Int32) (σ : Wd), Cm K nL cs (g r σ) σ (pc + 3) lv st) : Cm K nL cs (bd (f_X0_measure m1 a2 σ) g) σ pc lv (.int a2 :: .ref (K.G.A m1) :: .ref (K.G.A 10) :: st) := r_cVv hO (c_X0_measure hm1 a2 σ) cal_X0_measure hl rfl (by decide) ent_X0 rfl rfl hcat hR d kk
/-! OrderSplit_Chooser.prepare -/
def f_X1_prepare_62 (m1 : Nat) (k6 : Int32 → Int32 → Int32 → Int32 → Wd → Option (Int32 × Wd)) : Nat → Int32 → Int32 → Int32 → Int32 → Int32 → Int32 → Wd → Option (Int32 × Wd)
  | 0 => fun _ _ _ _ _ _ _ => none
  | n + 1 => fun x2 x3 x4 x5 x6 x7 σ => gd (inb x5 5) (if (σ.1 6 (ix x5)) < x7 then (k6 x2 x3 x4 (x5 + (1 : Int32)) σ) else (bd (f_X3_costOf m1 x5 x7 σ) fun r1 σ2 => gd (inb ((x5 * (121 : Int32)) + x7) 605) (nmW (wi σ2 7 (ix ((x5 * (121 : Int32)) + x7)) r1) fun σ3 => (f_X1_prepare_62 m1 k6 n x2 x3 x4 x5 x6 (x7 + x6) σ3))))
def f_X1_prepare_38 (m1 : Nat) (k6 : Int32 → Int32 → Int32 → Int32 → Wd → Option (Int32 × Wd)) (x2 : Int32) (x3 : Int32) (x4 : Int32) (x5 : Int32) (s1 : Int32) (s2 : Int32) (σ : Wd) : Option (Int32 × Wd) := gd (inb s1 5) (nmW (wi σ 6 (ix s1) s2) fun σ1 => gd (inb x5 5) (bd (f_X3_lotOf m1 x5 σ1) fun r2 σ3 => (f_X1_prepare_62 m1 k6 FU x2 x3 (x4 + (σ1.1 6 (ix x5))) x5 r2 (0 : Int32) σ3)))
def f_X1_prepare_123 (m1 : Nat)  (s0 : Int32) (σ : Wd) : Option (Int32 × Wd) := some (s0, σ)
def f_X1_prepare_6 (m1 : Nat)  : Nat → Int32 → Int32 → Int32 → Int32 → Wd → Option (Int32 × Wd)
  | 0 => fun _ _ _ _ _ => none
  | n + 1 => fun x2 x3 x4 x5 σ => if (σ.1 m1 3) ≤ x5 then (if x2 ≤ x4 then (f_X1_prepare_123 m1 x2 σ) else (f_X1_prepare_123 m1 x4 σ)) else (if x5 = x3 then (f_X1_prepare_38 m1 (f_X1_prepare_6 m1 n) x2 x3 x4 x5 x5 (0 : Int32) σ) else (bd (f_X3_wholeLots m1 x5 x2 σ) fun r1 σ2 => (f_X1_prepare_38 m1 (f_X1_prepare_6 m1 n) x2 x3 x4 x5 x5 r1 σ2)))
def f_X1_prepare (m1 : Nat) (a2 : Int32) (a3 : Int32) (σ : Wd) : Option (Int32 × Wd) := (f_X1_prepare_6 m1 FU a2 a3 (0 : Int32) (0 : Int32) σ)
set_option maxRecDepth 20000 in
set_option maxHeartbeats 1000000 in
theorem b_X1_prepare_62 {K : Kt} {m1 : Nat} {k6 : Int32 → Int32 → Int32 → Int32 → Wd → Option (Int32 × Wd)} (hO : Ok K cX1_prepare RX1 8 rm_X1_prepare) (hR : Rt K (some .int)) (hm1 : isM m1)  (hk6 : ∀ (x2 : Int32) (x3 : Int32) (x4 : Int32) (x5 : Int32) (σ : Wd), Cm K 8 (0, 0) (k6 x2 x3 x4 x5 σ) σ 6 [(0, .ref (K.G.A 4)), (1, .ref (K.G.A m1)), (2, .int x2), (3, .int x3), (4, .int x4), (5, .int x5)] []) : ∀ (n : Nat) (x2 : Int32) (x3 : Int32) (x4 : Int32) (x5 : Int32) (x6 : Int32) (x7 : Int32) (σ : Wd) , Cm K 8 (0, 0) (f_X1_prepare_62 m1 k6 n x2 x3 x4 x5 x6 x7 σ) σ 62 [(0, .ref (K.G.A 4)), (1, .ref (K.G.A m1)), (2, .int x2), (3, .int x3), (4, .int x4), (5, .int x5), (6, .int x6), (7, .int x7)] [] := by
  intro n
  induction n with
  | zero => intro x2 x3 x4 x5 x6 x7 σ ; exact r_none
  | succ n ih =>
    intro x2 x3 x4 x5 x6 x7 σ 
    refine r_iload hO (d := dX1_prepare_62) rfl ?_
    refine r_aload_n (i := 0) hO rfl rfl dX1_prepare_64 ?_
    refine gX1_22 hO dX1_prepare_65 ?_
    refine r_iload hO (d := dX1_prepare_68) rfl ?_
    refine r_iald hO s_6 dX1_prepare_70 ?_
    refine r_icmp_gt (tgt := 105) hO dX1_prepare_71 (by decide) ?_ ?_
    · refine r_iinc hO rfl ci_1 rfl rfl dX1_prepare_105 ?_
      refine r_goto (tgt := 6) hO dX1_prepare_108 (by decide) ?_
      exact r_jmp (hk6 x2 x3 x4 (x5 + (1 : Int32)) σ) (lsub_c rfl (lsub_c rfl (lsub_c rfl (lsub_c rfl (lsub_c rfl (lsub_c rfl lsub_n))))))
    · refine r_aload_n (i := 0) hO rfl rfl dX1_prepare_74 ?_
      refine gX1_25 hO dX1_prepare_75 ?_
      refine r_iload hO (d := dX1_prepare_78) rfl ?_
      refine r_bipush hO bi_121 dX1_prepare_80 ?_
      refine r_imul hO dX1_prepare_82 ?_
      refine r_iload hO (d := dX1_prepare_83) rfl ?_
      refine r_iadd hO dX1_prepare_85 ?_
      refine r_aload_n (i := 1) hO rfl rfl dX1_prepare_86 ?_
      refine r_iload hO (d := dX1_prepare_87) rfl ?_
      refine r_iload hO (d := dX1_prepare_89) rfl ?_
      refine k_X3_costOf hO hm1 a_44 rfl ⟨rfl, rfl, Nat.le_refl _, Nat.le_refl _⟩ dX1_prepare_91 ?_
      intro r1 σ2
      refine r_iast hO s_7 dX1_prepare_94 ?_
      refine r_nmW fun σ3 => ?_
      refine r_iload hO (d := dX1_prepare_95) rfl ?_
      refine r_iload hO (d := dX1_prepare_97) rfl ?_
      refine r_iadd hO dX1_prepare_99 ?_
      refine r_istore hO rfl rfl dX1_prepare_100 ?_
      refine r_goto (tgt := 62) hO dX1_prepare_102 (by decide) ?_
      exact r_jmp (ih x2 x3 x4 x5 x6 (x7 + x6) σ3) (lsub_c rfl (lsub_c rfl (lsub_c rfl (lsub_c rfl (lsub_c rfl (lsub_c rfl (lsub_c rfl (lsub_c rfl lsub_n))))))))
set_option maxRecDepth 20000 in
set_option maxHeartbeats 1000000 in
theorem b_X1_prepare_38 {K : Kt} {m1 : Nat} {k6 : Int32 → Int32 → Int32 → Int32 → Wd → Option (Int32 × Wd)} (hO : Ok K cX1_prepare RX1 8 rm_X1_prepare) (hR : Rt K (some .int)) (hm1 : isM m1)  (hk6 : ∀ (x2 : Int32) (x3 : Int32) (x4 : Int32) (x5 : Int32) (σ : Wd), Cm K 8 (0, 0) (k6 x2 x3 x4 x5 σ) σ 6 [(0, .ref (K.G.A 4)), (1, .ref (K.G.A m1)), (2, .int x2), (3, .int x3), (4, .int x4), (5, .int x5)] []) (x2 : Int32) (x3 : Int32) (x4 : Int32) (x5 : Int32) (s1 : Int32) (s2 : Int32) (σ : Wd)  : Cm K 8 (0, 0) (f_X1_prepare_38 m1 k6 x2 x3 x4 x5 s1 s2 σ) σ 38 [(0, .ref (K.G.A 4)), (1, .ref (K.G.A m1)), (2, .int x2), (3, .int x3), (4, .int x4), (5, .int x5)] [.int s2, .int s1, .ref (K.G.A 6)] := by
  refine r_iast hO s_6 dX1_prepare_38 ?_
  refine r_nmW fun σ1 => ?_
  refine r_iload hO (d := dX1_prepare_39) rfl ?_
  refine r_aload_n (i := 0) hO rfl rfl dX1_prepare_41 ?_
  refine gX1_22 hO dX1_prepare_42 ?_
  refine r_iload hO (d := dX1_prepare_45) rfl ?_
  refine r_iald hO s_6 dX1_prepare_47 ?_
  refine r_iadd hO dX1_prepare_48 ?_
  refine r_istore hO rfl rfl dX1_prepare_49 ?_
  refine r_aload_n (i := 1) hO rfl rfl dX1_prepare_51 ?_
  refine r_iload hO (d := dX1_prepare_52) rfl ?_
  refine k_X3_lotOf hO hm1 a_43 rfl ⟨rfl, rfl, Nat.le_refl _, Nat.le_refl _⟩ dX1_prepare_54 ?_
  intro r2 σ3
  refine r_istore hO rfl rfl dX1_prepare_57 ?_
  refine r_iconst hO ci_0 dX1_prepare_59 ?_
  refine r_istore hO rfl rfl dX1_prepare_60 ?_
  exact r_jmp (b_X1_prepare_62 hO hR hm1 hk6 FU x2 x3 (x4 + (σ1.1 6 (ix x5))) x5 r2 (0 : Int32) σ3) (lsub_c rfl (lsub_c rfl (lsub_c rfl (lsub_c rfl (lsub_c rfl (lsub_c rfl (lsub_c rfl (lsub_c rfl lsub_n))))))))
set_option maxRecDepth 20000 in
set_option maxHeartbeats 1000000 in
theorem b_X1_prepare_123 {K : Kt} {m1 : Nat}  (hO : Ok K cX1_prepare RX1 8 rm_X1_prepare) (hR : Rt K (some .int)) (hm1 : isM m1)  (s0 : Int32) (σ : Wd)  : Cm K 8 (0, 0) (f_X1_prepare_123 m1 s0 σ) σ 123 [] [.int s0] := by
  exact r_iret hO hR dX1_prepare_123
set_option maxRecDepth 20000 in
set_option maxHeartbeats 1000000 in
theorem b_X1_prepare_6 {K : Kt} {m1 : Nat}  (hO : Ok K cX1_prepare RX1 8 rm_X1_prepare) (hR : Rt K (some .int)) (hm1 : isM m1)  : ∀ (n : Nat) (x2 : Int32) (x3 : Int32) (x4 : Int32) (x5 : Int32) (σ : Wd) , Cm K 8 (0, 0) (f_X1_prepare_6 m1 n x2 x3 x4 x5 σ) σ 6 [(0, .ref (K.G.A 4)), (1, .ref (K.G.A m1)), (2, .int x2), (3, .int x3), (4, .int x4), (5, .int x5)] [] := by
  intro n
  induction n with
  | zero => intro x2 x3 x4 x5 σ ; exact r_none
  | succ n ih =>
    intro x2 x3 x4 x5 σ 
    refine r_iload hO (d := dX1_prepare_6) rfl ?_
    refine r_aload_n (i := 1) hO rfl rfl dX1_prepare_8 ?_
    refine gX1_38 hO hm1 dX1_prepare_9 ?_
    refine r_icmp_ge (tgt := 111) hO dX1_prepare_12 (by decide) ?_ ?_
    · refine r_iload hO (d := dX1_prepare_111) rfl ?_
      refine r_iload_n (i := 2) hO rfl rfl dX1_prepare_113 ?_
      refine r_icmp_ge (tgt := 122) hO dX1_prepare_114 (by decide) ?_ ?_
      · refine r_iload_n (i := 2) hO rfl rfl dX1_prepare_122 ?_
        exact r_jmp (b_X1_prepare_123 hO hR hm1 x2 σ) lsub_n
      · refine r_iload hO (d := dX1_prepare_117) rfl ?_
        refine r_goto (tgt := 123) hO dX1_prepare_119 (by decide) ?_
        exact r_jmp (b_X1_prepare_123 hO hR hm1 x4 σ) lsub_n
    · refine r_aload_n (i := 0) hO rfl rfl dX1_prepare_15 ?_
      refine gX1_22 hO dX1_prepare_16 ?_
      refine r_iload hO (d := dX1_prepare_19) rfl ?_
      refine r_iload hO (d := dX1_prepare_21) rfl ?_
      refine r_iload_n (i := 3) hO rfl rfl dX1_prepare_23 ?_
      refine r_icmp_ne (tgt := 31) hO dX1_prepare_24 (by decide) ?_ ?_
      · refine r_iconst hO ci_0 dX1_prepare_27 ?_
        refine r_goto (tgt := 38) hO dX1_prepare_28 (by decide) ?_
        exact r_jmp (b_X1_prepare_38 hO hR hm1 ih x2 x3 x4 x5 x5 (0 : Int32) σ) (lsub_c rfl (lsub_c rfl (lsub_c rfl (lsub_c rfl (lsub_c rfl (lsub_c rfl lsub_n))))))
      · refine r_aload_n (i := 1) hO rfl rfl dX1_prepare_31 ?_
        refine r_iload hO (d := dX1_prepare_32) rfl ?_
        refine r_iload_n (i := 2) hO rfl rfl dX1_prepare_34 ?_
        refine k_X3_wholeLots hO hm1 a_42 rfl ⟨rfl, rfl, Nat.le_refl _, Nat.le_refl _⟩ dX1_prepare_35 ?_
        intro r1 σ2
        exact r_jmp (b_X1_prepare_38 hO hR hm1 ih x2 x3 x4 x5 x5 r1 σ2) (lsub_c rfl (lsub_c rfl (lsub_c rfl (lsub_c rfl (lsub_c rfl (lsub_c rfl lsub_n))))))
set_option maxRecDepth 20000 in
set_option maxHeartbeats 1000000 in
theorem b_X1_prepare {K : Kt} {m1 : Nat} (hO : Ok K cX1_prepare RX1 8 rm_X1_prepare) (hR : Rt K (some .int)) (hm1 : isM m1) (a2 : Int32) (a3 : Int32) (σ : Wd) : Cm K 8 (0, 0) (f_X1_prepare m1 a2 a3 σ) σ 0 [(0, .ref (K.G.A 4)), (1, .ref (K.G.A m1)), (2, .int a2), (3, .int a3)] [] := by
  refine r_iconst hO ci_0 dX1_prepare_0 ?_
  refine r_istore hO rfl rfl dX1_prepare_1 ?_
  refine r_iconst hO ci_0 dX1_prepare_3 ?_
  refine r_istore hO rfl rfl dX1_prepare_4 ?_
  exact r_jmp (b_X1_prepare_6 hO hR hm1 FU a2 a3 (0 : Int32) (0 : Int32) σ) (lsub_c rfl (lsub_c rfl (lsub_c rfl (lsub_c rfl (lsub_c rfl (lsub_c rfl lsub_n))))))
theorem c_X1_prepare {l : Launch} {G : Gh} {m1 : Nat} (hm1 : isM m1) (a2 : Int32) (a3 : Int32) (σ : Wd) : Con l G yX1_prepare cX1_prepare 8 (some .int) 2 50 [.ref (G.A 4), .ref (G.A m1), .int a2, .int a3] σ (f_X1_prepare m1 a2 a3 σ) := Con.of (plainFor_of_name (by decide)) rfl (Nat.le_of_ble_eq_true rfl) (fun K hl hG hO hR => by subst hl; subst hG; exact b_X1_prepare hO hR hm1 a2 a3 σ)
theorem cal_X1_prepare : CalV yX1_prepare cX1_prepare 8 (some .int) 3 := ⟨a_45, a_46, a_47, a_48, by decide, by decide, by decide +kernel⟩
theorem k_X1_prepare {K : Kt} {nL : Nat} {cs : Nat × Nat} {σ : Wd} {pc : Nat} {lv : List (Nat × Value)} {st : List Value} {cc : ByteArray} {own : String} {rm : Room} {index : Nat} {g : Int32 → Wd → Option (Int32 × Wd)} {m1 : Nat} {a2 : Int32} {a3 : Int32} (hO : Ok K cc own nL rm) (hm1 : isM m1) (hl : Cond.methodLink own index yX1_prepare ∈ gtb) (hcat : Nat.ble ((st.map fun v => v.category).sum) 8 = true) (hR : RoomOk rm cs 2 50 8) (d : decode cc pc = .ok (.invokevirtual index, 3)) (kk : ∀ (r : Int32) (σ : Wd), Cm K nL cs (g r σ) σ (pc + 3) lv (.int r :: st)) : Cm K nL cs (bd (f_X1_prepare m1 a2 a3 σ) g) σ pc lv (.int a3 :: .int a2 :: .ref (K.G.A m1) :: .ref (K.G.A 4) :: st) := r_cVi hO (c_X1_prepare hm1 a2 a3 σ) cal_X1_prepare hl rfl (by decide) ent_X1 rfl rfl hcat hR d kk
/-! OrderSplit_Chooser.leastCostFrom -/
def f_X1_leastCostFrom_98  (k29 : Int32 → Int32 → Int32 → Int32 → Int32 → Int32 → Wd → Option (Int32 × Wd)) (x1 : Int32) (x2 : Int32) (x3 : Int32) (x4 : Int32) (x5 : Int32) (x6 : Int32) (σ : Wd) : Option (Int32 × Wd) := (k29 x1 x2 x3 x4 x5 (x6 + x3) σ)
def f_X1_leastCostFrom_29   : Nat → Int32 → Int32 → Int32 → Int32 → Int32 → Int32 → Wd → Option (Int32 × Wd)
  | 0 => fun _ _ _ _ _ _ _ => none
  | n + 1 => fun x1 x2 x3 x4 x5 x6 σ => if x5 < x6 then (some (x4, σ)) else (gd (inb ((((x1 + (1 : Int32)) * (121 : Int32)) + x2) - x6) 726) (if (1000000000 : Int32) ≤ (σ.1 8 (ix ((((x1 + (1 : Int32)) * (121 : Int32)) + x2) - x6))) then (f_X1_leastCostFrom_98 (f_X1_leastCostFrom_29 n) x1 x2 x3 x4 x5 x6 σ) else (gd (inb ((x1 * (121 : Int32)) + x6) 605) (if x4 ≤ ((σ.1 7 (ix ((x1 * (121 : Int32)) + x6))) + (σ.1 8 (ix ((((x1 + (1 : Int32)) * (121 : Int32)) + x2) - x6)))) then (f_X1_leastCostFrom_98 (f_X1_leastCostFrom_29 n) x1 x2 x3 x4 x5 x6 σ) else (gd (inb ((x1 * (121 : Int32)) + x6) 605) ((f_X1_leastCostFrom_98 (f_X1_leastCostFrom_29 n) x1 x2 x3 ((σ.1 7 (ix ((x1 * (121 : Int32)) + x6))) + (σ.1 8 (ix ((((x1 + (1 : Int32)) * (121 : Int32)) + x2) - x6)))) x5 x6 σ)))))))
def f_X1_leastCostFrom_24   (x1 : Int32) (x2 : Int32) (x3 : Int32) (x4 : Int32) (s0 : Int32) (σ : Wd) : Option (Int32 × Wd) := (f_X1_leastCostFrom_29 FU x1 x2 x3 x4 s0 (0 : Int32) σ)
def f_X1_leastCostFrom (a1 : Int32) (a2 : Int32) (a3 : Int32) (σ : Wd) : Option (Int32 × Wd) := gd (inb a1 5) (if a2 ≤ (σ.1 6 (ix a1)) then (f_X1_leastCostFrom_24 a1 a2 a3 (1000000000 : Int32) a2 σ) else (gd (inb a1 5) ((f_X1_leastCostFrom_24 a1 a2 a3 (1000000000 : Int32) (σ.1 6 (ix a1)) σ))))
set_option maxRecDepth 20000 in
set_option maxHeartbeats 1000000 in
theorem b_X1_leastCostFrom_98 {K : Kt}  {k29 : Int32 → Int32 → Int32 → Int32 → Int32 → Int32 → Wd → Option (Int32 × Wd)} (hO : Ok K cX1_leastCostFrom RX1 8 rm_X1_leastCostFrom) (hR : Rt K (some .int))   (hk29 : ∀ (x1 : Int32) (x2 : Int32) (x3 : Int32) (x4 : Int32) (x5 : Int32) (x6 : Int32) (σ : Wd), Cm K 8 (0, 0) (k29 x1 x2 x3 x4 x5 x6 σ) σ 29 [(0, .ref (K.G.A 4)), (1, .int x1), (2, .int x2), (3, .int x3), (4, .int x4), (5, .int x5), (6, .int x6)] []) (x1 : Int32) (x2 : Int32) (x3 : Int32) (x4 : Int32) (x5 : Int32) (x6 : Int32) (σ : Wd)  : Cm K 8 (0, 0) (f_X1_leastCostFrom_98 k29 x1 x2 x3 x4 x5 x6 σ) σ 98 [(0, .ref (K.G.A 4)), (1, .int x1), (2, .int x2), (3, .int x3), (4, .int x4), (5, .int x5), (6, .int x6)] [] := by
  refine r_iload hO (d := dX1_leastCostFrom_98) rfl ?_
  refine r_iload_n (i := 3) hO rfl rfl dX1_leastCostFrom_100 ?_
  refine r_iadd hO dX1_leastCostFrom_101 ?_
  refine r_istore hO rfl rfl dX1_leastCostFrom_102 ?_
  refine r_goto (tgt := 29) hO dX1_leastCostFrom_104 (by decide) ?_
  exact r_jmp (hk29 x1 x2 x3 x4 x5 (x6 + x3) σ) (lsub_c rfl (lsub_c rfl (lsub_c rfl (lsub_c rfl (lsub_c rfl (lsub_c rfl (lsub_c rfl lsub_n)))))))
set_option maxRecDepth 20000 in
set_option maxHeartbeats 1000000 in
theorem b_X1_leastCostFrom_29 {K : Kt}   (hO : Ok K cX1_leastCostFrom RX1 8 rm_X1_leastCostFrom) (hR : Rt K (some .int))   : ∀ (n : Nat) (x1 : Int32) (x2 : Int32) (x3 : Int32) (x4 : Int32) (x5 : Int32) (x6 : Int32) (σ : Wd) , Cm K 8 (0, 0) (f_X1_leastCostFrom_29  n x1 x2 x3 x4 x5 x6 σ) σ 29 [(0, .ref (K.G.A 4)), (1, .int x1), (2, .int x2), (3, .int x3), (4, .int x4), (5, .int x5), (6, .int x6)] [] := by
  intro n
  induction n with
  | zero => intro x1 x2 x3 x4 x5 x6 σ ; exact r_none
  | succ n ih =>
    intro x1 x2 x3 x4 x5 x6 σ 
    refine r_iload hO (d := dX1_leastCostFrom_29) rfl ?_
    refine r_iload hO (d := dX1_leastCostFrom_31) rfl ?_
    refine r_icmp_gt (tgt := 107) hO dX1_leastCostFrom_33 (by decide) ?_ ?_
    · refine r_iload hO (d := dX1_leastCostFrom_107) rfl ?_
      exact r_iret hO hR dX1_leastCostFrom_109
    · refine r_aload_n (i := 0) hO rfl rfl dX1_leastCostFrom_36 ?_
      refine gX1_28 hO dX1_leastCostFrom_37 ?_
      refine r_iload_n (i := 1) hO rfl rfl dX1_leastCostFrom_40 ?_
      refine r_iconst hO ci_1 dX1_leastCostFrom_41 ?_
      refine r_iadd hO dX1_leastCostFrom_42 ?_
      refine r_bipush hO bi_121 dX1_leastCostFrom_43 ?_
      refine r_imul hO dX1_leastCostFrom_45 ?_
      refine r_iload_n (i := 2) hO rfl rfl dX1_leastCostFrom_46 ?_
      refine r_iadd hO dX1_leastCostFrom_47 ?_
      refine r_iload hO (d := dX1_leastCostFrom_48) rfl ?_
      refine r_isub hO dX1_leastCostFrom_50 ?_
      refine r_iald hO s_8 dX1_leastCostFrom_51 ?_
      refine r_istore hO rfl rfl dX1_leastCostFrom_52 ?_
      refine r_iload hO (d := dX1_leastCostFrom_54) rfl ?_
      refine r_ldc hO a_49 dX1_leastCostFrom_56 ?_
      refine r_icmp_ge (tgt := 98) hO dX1_leastCostFrom_58 (by decide) ?_ ?_
      · exact r_jmp (b_X1_leastCostFrom_98 hO hR ih x1 x2 x3 x4 x5 x6 σ) (lsub_c rfl (lsub_c rfl (lsub_c rfl (lsub_c rfl (lsub_c rfl (lsub_c rfl (lsub_c rfl lsub_n)))))))
      · refine r_aload_n (i := 0) hO rfl rfl dX1_leastCostFrom_61 ?_
        refine gX1_25 hO dX1_leastCostFrom_62 ?_
        refine r_iload_n (i := 1) hO rfl rfl dX1_leastCostFrom_65 ?_
        refine r_bipush hO bi_121 dX1_leastCostFrom_66 ?_
        refine r_imul hO dX1_leastCostFrom_68 ?_
        refine r_iload hO (d := dX1_leastCostFrom_69) rfl ?_
        refine r_iadd hO dX1_leastCostFrom_71 ?_
        refine r_iald hO s_7 dX1_leastCostFrom_72 ?_
        refine r_iload hO (d := dX1_leastCostFrom_73) rfl ?_
        refine r_iadd hO dX1_leastCostFrom_75 ?_
        refine r_iload hO (d := dX1_leastCostFrom_76) rfl ?_
        refine r_icmp_ge (tgt := 98) hO dX1_leastCostFrom_78 (by decide) ?_ ?_
        · exact r_jmp (b_X1_leastCostFrom_98 hO hR ih x1 x2 x3 x4 x5 x6 σ) (lsub_c rfl (lsub_c rfl (lsub_c rfl (lsub_c rfl (lsub_c rfl (lsub_c rfl (lsub_c rfl lsub_n)))))))
        · refine r_aload_n (i := 0) hO rfl rfl dX1_leastCostFrom_81 ?_
          refine gX1_25 hO dX1_leastCostFrom_82 ?_
          refine r_iload_n (i := 1) hO rfl rfl dX1_leastCostFrom_85 ?_
          refine r_bipush hO bi_121 dX1_leastCostFrom_86 ?_
          refine r_imul hO dX1_leastCostFrom_88 ?_
          refine r_iload hO (d := dX1_leastCostFrom_89) rfl ?_
          refine r_iadd hO dX1_leastCostFrom_91 ?_
          refine r_iald hO s_7 dX1_leastCostFrom_92 ?_
          refine r_iload hO (d := dX1_leastCostFrom_93) rfl ?_
          refine r_iadd hO dX1_leastCostFrom_95 ?_
          refine r_istore hO rfl rfl dX1_leastCostFrom_96 ?_
          exact r_jmp (b_X1_leastCostFrom_98 hO hR ih x1 x2 x3 ((σ.1 7 (ix ((x1 * (121 : Int32)) + x6))) + (σ.1 8 (ix ((((x1 + (1 : Int32)) * (121 : Int32)) + x2) - x6)))) x5 x6 σ) (lsub_c rfl (lsub_c rfl (lsub_c rfl (lsub_c rfl (lsub_c rfl (lsub_c rfl (lsub_c rfl lsub_n)))))))
set_option maxRecDepth 20000 in
set_option maxHeartbeats 1000000 in
theorem b_X1_leastCostFrom_24 {K : Kt}   (hO : Ok K cX1_leastCostFrom RX1 8 rm_X1_leastCostFrom) (hR : Rt K (some .int))   (x1 : Int32) (x2 : Int32) (x3 : Int32) (x4 : Int32) (s0 : Int32) (σ : Wd)  : Cm K 8 (0, 0) (f_X1_leastCostFrom_24  x1 x2 x3 x4 s0 σ) σ 24 [(0, .ref (K.G.A 4)), (1, .int x1), (2, .int x2), (3, .int x3), (4, .int x4)] [.int s0] := by
  refine r_istore hO rfl rfl dX1_leastCostFrom_24 ?_
  refine r_iconst hO ci_0 dX1_leastCostFrom_26 ?_
  refine r_istore hO rfl rfl dX1_leastCostFrom_27 ?_
  exact r_jmp (b_X1_leastCostFrom_29 hO hR FU x1 x2 x3 x4 s0 (0 : Int32) σ) (lsub_c rfl (lsub_c rfl (lsub_c rfl (lsub_c rfl (lsub_c rfl (lsub_c rfl (lsub_c rfl lsub_n)))))))
set_option maxRecDepth 20000 in
set_option maxHeartbeats 1000000 in
theorem b_X1_leastCostFrom {K : Kt}  (hO : Ok K cX1_leastCostFrom RX1 8 rm_X1_leastCostFrom) (hR : Rt K (some .int))  (a1 : Int32) (a2 : Int32) (a3 : Int32) (σ : Wd) : Cm K 8 (0, 0) (f_X1_leastCostFrom a1 a2 a3 σ) σ 0 [(0, .ref (K.G.A 4)), (1, .int a1), (2, .int a2), (3, .int a3)] [] := by
  refine r_ldc hO a_49 dX1_leastCostFrom_0 ?_
  refine r_istore hO rfl rfl dX1_leastCostFrom_2 ?_
  refine r_aload_n (i := 0) hO rfl rfl dX1_leastCostFrom_4 ?_
  refine gX1_22 hO dX1_leastCostFrom_5 ?_
  refine r_iload_n (i := 1) hO rfl rfl dX1_leastCostFrom_8 ?_
  refine r_iald hO s_6 dX1_leastCostFrom_9 ?_
  refine r_iload_n (i := 2) hO rfl rfl dX1_leastCostFrom_10 ?_
  refine r_icmp_ge (tgt := 23) hO dX1_leastCostFrom_11 (by decide) ?_ ?_
  · refine r_iload_n (i := 2) hO rfl rfl dX1_leastCostFrom_23 ?_
    exact r_jmp (b_X1_leastCostFrom_24 hO hR a1 a2 a3 (1000000000 : Int32) a2 σ) (lsub_c rfl (lsub_c rfl (lsub_c rfl (lsub_c rfl (lsub_c rfl lsub_n)))))
  · refine r_aload_n (i := 0) hO rfl rfl dX1_leastCostFrom_14 ?_
    refine gX1_22 hO dX1_leastCostFrom_15 ?_
    refine r_iload_n (i := 1) hO rfl rfl dX1_leastCostFrom_18 ?_
    refine r_iald hO s_6 dX1_leastCostFrom_19 ?_
    refine r_goto (tgt := 24) hO dX1_leastCostFrom_20 (by decide) ?_
    exact r_jmp (b_X1_leastCostFrom_24 hO hR a1 a2 a3 (1000000000 : Int32) (σ.1 6 (ix a1)) σ) (lsub_c rfl (lsub_c rfl (lsub_c rfl (lsub_c rfl (lsub_c rfl lsub_n)))))
theorem c_X1_leastCostFrom {l : Launch} {G : Gh}   (a1 : Int32) (a2 : Int32) (a3 : Int32) (σ : Wd) : Con l G yX1_leastCostFrom cX1_leastCostFrom 8 (some .int) 0 0 [.ref (G.A 4), .int a1, .int a2, .int a3] σ (f_X1_leastCostFrom a1 a2 a3 σ) := Con.of (plainFor_of_name (by decide)) rfl (Nat.le_of_ble_eq_true rfl) (fun K hl hG hO hR => by subst hl; subst hG; exact b_X1_leastCostFrom hO hR  a1 a2 a3 σ)
theorem cal_X1_leastCostFrom : CalV yX1_leastCostFrom cX1_leastCostFrom 8 (some .int) 3 := ⟨a_50, a_51, a_52, a_48, by decide, by decide, by decide +kernel⟩
theorem k_X1_leastCostFrom {K : Kt} {nL : Nat} {cs : Nat × Nat} {σ : Wd} {pc : Nat} {lv : List (Nat × Value)} {st : List Value} {cc : ByteArray} {own : String} {rm : Room} {index : Nat} {g : Int32 → Wd → Option (Int32 × Wd)} {a1 : Int32} {a2 : Int32} {a3 : Int32} (hO : Ok K cc own nL rm)  (hl : Cond.methodLink own index yX1_leastCostFrom ∈ gtb) (hcat : Nat.ble ((st.map fun v => v.category).sum) 8 = true) (hR : RoomOk rm cs 0 0 8) (d : decode cc pc = .ok (.invokevirtual index, 3)) (kk : ∀ (r : Int32) (σ : Wd), Cm K nL cs (g r σ) σ (pc + 3) lv (.int r :: st)) : Cm K nL cs (bd (f_X1_leastCostFrom a1 a2 a3 σ) g) σ pc lv (.int a3 :: .int a2 :: .int a1 :: .ref (K.G.A 4) :: st) := r_cVi hO (c_X1_leastCostFrom  a1 a2 a3 σ) cal_X1_leastCostFrom hl rfl (by decide) ent_X1 rfl rfl hcat hR d kk
/-! OrderSplit_Chooser.mostUnits -/
def f_X1_mostUnits_2 (q0 : Nat) (l0 : Nat)  : Nat → Int32 → Wd → Option (Int32 × Wd)
  | 0 => fun _ _ => none
  | n + 1 => fun x2 σ => if x2 ≤ 0 then (some ((0 : Int32), σ)) else (gd (inb x2 l0) (if (1000000000 : Int32) ≤ (σ.1 q0 (ix x2)) then (f_X1_mostUnits_2 q0 l0 n (x2 + (-1 : Int32)) σ) else (some (x2, σ))))
def f_X1_mostUnits (q0 : Nat) (l0 : Nat) (a1 : Int32) (σ : Wd) : Option (Int32 × Wd) := (f_X1_mostUnits_2 q0 l0 FU a1 σ)
set_option maxRecDepth 20000 in
set_option maxHeartbeats 1000000 in
theorem b_X1_mostUnits_2 {K : Kt} {q0 : Nat} {l0 : Nat}  (hO : Ok K cX1_mostUnits RX1 3 rm_X1_mostUnits) (hR : Rt K (some .int)) (hq0 : sh q0 0 l0)  : ∀ (n : Nat) (x2 : Int32) (σ : Wd) , Cm K 3 (0, 0) (f_X1_mostUnits_2 q0 l0 n x2 σ) σ 2 [(0, .ref (K.G.A q0)), (2, .int x2)] [] := by
  intro n
  induction n with
  | zero => intro x2 σ ; exact r_none
  | succ n ih =>
    intro x2 σ 
    refine r_iload_n (i := 2) hO rfl rfl dX1_mostUnits_2 ?_
    refine r_if_le (tgt := 22) hO dX1_mostUnits_3 (by decide) ?_ ?_
    · refine r_iconst hO ci_0 dX1_mostUnits_22 ?_
      exact r_iret hO hR dX1_mostUnits_23
    · refine r_aload_n (i := 0) hO rfl rfl dX1_mostUnits_6 ?_
      refine r_iload_n (i := 2) hO rfl rfl dX1_mostUnits_7 ?_
      refine r_iald hO hq0 dX1_mostUnits_8 ?_
      refine r_ldc hO a_49 dX1_mostUnits_9 ?_
      refine r_icmp_ge (tgt := 16) hO dX1_mostUnits_11 (by decide) ?_ ?_
      · refine r_iinc hO rfl ci_m1 rfl rfl dX1_mostUnits_16 ?_
        refine r_goto (tgt := 2) hO dX1_mostUnits_19 (by decide) ?_
        exact r_jmp (ih (x2 + (-1 : Int32)) σ) (lsub_c rfl (lsub_c rfl lsub_n))
      · refine r_iload_n (i := 2) hO rfl rfl dX1_mostUnits_14 ?_
        exact r_iret hO hR dX1_mostUnits_15
set_option maxRecDepth 20000 in
set_option maxHeartbeats 1000000 in
theorem b_X1_mostUnits {K : Kt} {q0 : Nat} {l0 : Nat} (hO : Ok K cX1_mostUnits RX1 3 rm_X1_mostUnits) (hR : Rt K (some .int)) (hq0 : sh q0 0 l0) (a1 : Int32) (σ : Wd) : Cm K 3 (0, 0) (f_X1_mostUnits q0 l0 a1 σ) σ 0 [(0, .ref (K.G.A q0)), (1, .int a1)] [] := by
  refine r_iload_n (i := 1) hO rfl rfl dX1_mostUnits_0 ?_
  refine r_istore_n (i := 2) hO rfl rfl rfl dX1_mostUnits_1 ?_
  exact r_jmp (b_X1_mostUnits_2 hO hR hq0 FU a1 σ) (lsub_c rfl (lsub_c rfl lsub_n))
theorem c_X1_mostUnits {l : Launch} {G : Gh} {q0 : Nat} {l0 : Nat} (hq0 : sh q0 0 l0) (a1 : Int32) (σ : Wd) : Con l G yX1_mostUnits cX1_mostUnits 3 (some .int) 0 0 [.ref (G.A q0), .int a1] σ (f_X1_mostUnits q0 l0 a1 σ) := Con.of (plainFor_of_name (by decide)) rfl (Nat.le_of_ble_eq_true rfl) (fun K hl hG hO hR => by subst hl; subst hG; exact b_X1_mostUnits hO hR hq0 a1 σ)
theorem cal_X1_mostUnits : CalS yX1_mostUnits cX1_mostUnits 3 (some .int) 2 := ⟨a_53, a_54, a_48, by decide, by decide, by decide +kernel⟩
theorem k_X1_mostUnits {K : Kt} {nL : Nat} {cs : Nat × Nat} {σ : Wd} {pc : Nat} {lv : List (Nat × Value)} {st : List Value} {cc : ByteArray} {own : String} {rm : Room} {index : Nat} {g : Int32 → Wd → Option (Int32 × Wd)} {q0 : Nat} {l0 : Nat} {a1 : Int32} (hO : Ok K cc own nL rm) (hq0 : sh q0 0 l0) (hl : Cond.methodLink own index yX1_mostUnits ∈ gtb) (hcat : Nat.ble ((st.map fun v => v.category).sum) 8 = true) (hR : RoomOk rm cs 0 0 3) (d : decode cc pc = .ok (.invokestatic index, 3)) (kk : ∀ (r : Int32) (σ : Wd), Cm K nL cs (g r σ) σ (pc + 3) lv (.int r :: st)) : Cm K nL cs (bd (f_X1_mostUnits q0 l0 a1 σ) g) σ pc lv (.int a1 :: .ref (K.G.A q0) :: st) := r_cSi hO (c_X1_mostUnits hq0 a1 σ) cal_X1_mostUnits hl rfl rfl hcat hR d kk
/-! OrderSplit_Chooser.mostAtLeastCost -/
def f_X1_mostAtLeastCost_93  (k28 : Int32 → Int32 → Int32 → Int32 → Int32 → Int32 → Wd → Option (Int32 × Wd)) (x1 : Int32) (x2 : Int32) (x3 : Int32) (x4 : Int32) (x5 : Int32) (x6 : Int32) (σ : Wd) : Option (Int32 × Wd) := (k28 x1 x2 x3 x4 x5 (x6 + x3) σ)
def f_X1_mostAtLeastCost_28   : Nat → Int32 → Int32 → Int32 → Int32 → Int32 → Int32 → Wd → Option (Int32 × Wd)
  | 0 => fun _ _ _ _ _ _ _ => none
  | n + 1 => fun x1 x2 x3 x4 x5 x6 σ => if x5 < x6 then (some (x4, σ)) else (gd (inb ((((x1 + (1 : Int32)) * (121 : Int32)) + x2) - x6) 726) (if (1000000000 : Int32) ≤ (σ.1 8 (ix ((((x1 + (1 : Int32)) * (121 : Int32)) + x2) - x6))) then (f_X1_mostAtLeastCost_93 (f_X1_mostAtLeastCost_28 n) x1 x2 x3 x4 x5 x6 σ) else (gd (inb ((x1 * (121 : Int32)) + x6) 605) (gd (inb ((x1 * (121 : Int32)) + x2) 726) (if ((σ.1 7 (ix ((x1 * (121 : Int32)) + x6))) + (σ.1 8 (ix ((((x1 + (1 : Int32)) * (121 : Int32)) + x2) - x6)))) = (σ.1 8 (ix ((x1 * (121 : Int32)) + x2))) then (f_X1_mostAtLeastCost_93 (f_X1_mostAtLeastCost_28 n) x1 x2 x3 x6 x5 x6 σ) else (f_X1_mostAtLeastCost_93 (f_X1_mostAtLeastCost_28 n) x1 x2 x3 x4 x5 x6 σ))))))
def f_X1_mostAtLeastCost_23   (x1 : Int32) (x2 : Int32) (x3 : Int32) (x4 : Int32) (s0 : Int32) (σ : Wd) : Option (Int32 × Wd) := (f_X1_mostAtLeastCost_28 FU x1 x2 x3 x4 s0 (0 : Int32) σ)
def f_X1_mostAtLeastCost (a1 : Int32) (a2 : Int32) (a3 : Int32) (σ : Wd) : Option (Int32 × Wd) := gd (inb a1 5) (if a2 ≤ (σ.1 6 (ix a1)) then (f_X1_mostAtLeastCost_23 a1 a2 a3 (0 : Int32) a2 σ) else (gd (inb a1 5) ((f_X1_mostAtLeastCost_23 a1 a2 a3 (0 : Int32) (σ.1 6 (ix a1)) σ))))
set_option maxRecDepth 20000 in
set_option maxHeartbeats 1000000 in
theorem b_X1_mostAtLeastCost_93 {K : Kt}  {k28 : Int32 → Int32 → Int32 → Int32 → Int32 → Int32 → Wd → Option (Int32 × Wd)} (hO : Ok K cX1_mostAtLeastCost RX1 8 rm_X1_mostAtLeastCost) (hR : Rt K (some .int))   (hk28 : ∀ (x1 : Int32) (x2 : Int32) (x3 : Int32) (x4 : Int32) (x5 : Int32) (x6 : Int32) (σ : Wd), Cm K 8 (0, 0) (k28 x1 x2 x3 x4 x5 x6 σ) σ 28 [(0, .ref (K.G.A 4)), (1, .int x1), (2, .int x2), (3, .int x3), (4, .int x4), (5, .int x5), (6, .int x6)] []) (x1 : Int32) (x2 : Int32) (x3 : Int32) (x4 : Int32) (x5 : Int32) (x6 : Int32) (σ : Wd)  : Cm K 8 (0, 0) (f_X1_mostAtLeastCost_93 k28 x1 x2 x3 x4 x5 x6 σ) σ 93 [(0, .ref (K.G.A 4)), (1, .int x1), (2, .int x2), (3, .int x3), (4, .int x4), (5, .int x5), (6, .int x6)] [] := by
  refine r_iload hO (d := dX1_mostAtLeastCost_93) rfl ?_
  refine r_iload_n (i := 3) hO rfl rfl dX1_mostAtLeastCost_95 ?_
  refine r_iadd hO dX1_mostAtLeastCost_96 ?_
  refine r_istore hO rfl rfl dX1_mostAtLeastCost_97 ?_
  refine r_goto (tgt := 28) hO dX1_mostAtLeastCost_99 (by decide) ?_
  exact r_jmp (hk28 x1 x2 x3 x4 x5 (x6 + x3) σ) (lsub_c rfl (lsub_c rfl (lsub_c rfl (lsub_c rfl (lsub_c rfl (lsub_c rfl (lsub_c rfl lsub_n)))))))
set_option maxRecDepth 20000 in
set_option maxHeartbeats 1000000 in
theorem b_X1_mostAtLeastCost_28 {K : Kt}   (hO : Ok K cX1_mostAtLeastCost RX1 8 rm_X1_mostAtLeastCost) (hR : Rt K (some .int))   : ∀ (n : Nat) (x1 : Int32) (x2 : Int32) (x3 : Int32) (x4 : Int32) (x5 : Int32) (x6 : Int32) (σ : Wd) , Cm K 8 (0, 0) (f_X1_mostAtLeastCost_28  n x1 x2 x3 x4 x5 x6 σ) σ 28 [(0, .ref (K.G.A 4)), (1, .int x1), (2, .int x2), (3, .int x3), (4, .int x4), (5, .int x5), (6, .int x6)] [] := by
  intro n
  induction n with
  | zero => intro x1 x2 x3 x4 x5 x6 σ ; exact r_none
  | succ n ih =>
    intro x1 x2 x3 x4 x5 x6 σ 
    refine r_iload hO (d := dX1_mostAtLeastCost_28) rfl ?_
    refine r_iload hO (d := dX1_mostAtLeastCost_30) rfl ?_
    refine r_icmp_gt (tgt := 102) hO dX1_mostAtLeastCost_32 (by decide) ?_ ?_
    · refine r_iload hO (d := dX1_mostAtLeastCost_102) rfl ?_
      exact r_iret hO hR dX1_mostAtLeastCost_104
    · refine r_aload_n (i := 0) hO rfl rfl dX1_mostAtLeastCost_35 ?_
      refine gX1_28 hO dX1_mostAtLeastCost_36 ?_
      refine r_iload_n (i := 1) hO rfl rfl dX1_mostAtLeastCost_39 ?_
      refine r_iconst hO ci_1 dX1_mostAtLeastCost_40 ?_
      refine r_iadd hO dX1_mostAtLeastCost_41 ?_
      refine r_bipush hO bi_121 dX1_mostAtLeastCost_42 ?_
      refine r_imul hO dX1_mostAtLeastCost_44 ?_
      refine r_iload_n (i := 2) hO rfl rfl dX1_mostAtLeastCost_45 ?_
      refine r_iadd hO dX1_mostAtLeastCost_46 ?_
      refine r_iload hO (d := dX1_mostAtLeastCost_47) rfl ?_
      refine r_isub hO dX1_mostAtLeastCost_49 ?_
      refine r_iald hO s_8 dX1_mostAtLeastCost_50 ?_
      refine r_istore hO rfl rfl dX1_mostAtLeastCost_51 ?_
      refine r_iload hO (d := dX1_mostAtLeastCost_53) rfl ?_
      refine r_ldc hO a_49 dX1_mostAtLeastCost_55 ?_
      refine r_icmp_ge (tgt := 93) hO dX1_mostAtLeastCost_57 (by decide) ?_ ?_
      · exact r_jmp (b_X1_mostAtLeastCost_93 hO hR ih x1 x2 x3 x4 x5 x6 σ) (lsub_c rfl (lsub_c rfl (lsub_c rfl (lsub_c rfl (lsub_c rfl (lsub_c rfl (lsub_c rfl lsub_n)))))))
      · refine r_aload_n (i := 0) hO rfl rfl dX1_mostAtLeastCost_60 ?_
        refine gX1_25 hO dX1_mostAtLeastCost_61 ?_
        refine r_iload_n (i := 1) hO rfl rfl dX1_mostAtLeastCost_64 ?_
        refine r_bipush hO bi_121 dX1_mostAtLeastCost_65 ?_
        refine r_imul hO dX1_mostAtLeastCost_67 ?_
        refine r_iload hO (d := dX1_mostAtLeastCost_68) rfl ?_
        refine r_iadd hO dX1_mostAtLeastCost_70 ?_
        refine r_iald hO s_7 dX1_mostAtLeastCost_71 ?_
        refine r_iload hO (d := dX1_mostAtLeastCost_72) rfl ?_
        refine r_iadd hO dX1_mostAtLeastCost_74 ?_
        refine r_aload_n (i := 0) hO rfl rfl dX1_mostAtLeastCost_75 ?_
        refine gX1_28 hO dX1_mostAtLeastCost_76 ?_
        refine r_iload_n (i := 1) hO rfl rfl dX1_mostAtLeastCost_79 ?_
        refine r_bipush hO bi_121 dX1_mostAtLeastCost_80 ?_
        refine r_imul hO dX1_mostAtLeastCost_82 ?_
        refine r_iload_n (i := 2) hO rfl rfl dX1_mostAtLeastCost_83 ?_
        refine r_iadd hO dX1_mostAtLeastCost_84 ?_
        refine r_iald hO s_8 dX1_mostAtLeastCost_85 ?_
        refine r_icmp_ne (tgt := 93) hO dX1_mostAtLeastCost_86 (by decide) ?_ ?_
        · refine r_iload hO (d := dX1_mostAtLeastCost_89) rfl ?_
          refine r_istore hO rfl rfl dX1_mostAtLeastCost_91 ?_
          exact r_jmp (b_X1_mostAtLeastCost_93 hO hR ih x1 x2 x3 x6 x5 x6 σ) (lsub_c rfl (lsub_c rfl (lsub_c rfl (lsub_c rfl (lsub_c rfl (lsub_c rfl (lsub_c rfl lsub_n)))))))
        · exact r_jmp (b_X1_mostAtLeastCost_93 hO hR ih x1 x2 x3 x4 x5 x6 σ) (lsub_c rfl (lsub_c rfl (lsub_c rfl (lsub_c rfl (lsub_c rfl (lsub_c rfl (lsub_c rfl lsub_n)))))))
set_option maxRecDepth 20000 in
set_option maxHeartbeats 1000000 in
theorem b_X1_mostAtLeastCost_23 {K : Kt}   (hO : Ok K cX1_mostAtLeastCost RX1 8 rm_X1_mostAtLeastCost) (hR : Rt K (some .int))   (x1 : Int32) (x2 : Int32) (x3 : Int32) (x4 : Int32) (s0 : Int32) (σ : Wd)  : Cm K 8 (0, 0) (f_X1_mostAtLeastCost_23  x1 x2 x3 x4 s0 σ) σ 23 [(0, .ref (K.G.A 4)), (1, .int x1), (2, .int x2), (3, .int x3), (4, .int x4)] [.int s0] := by
  refine r_istore hO rfl rfl dX1_mostAtLeastCost_23 ?_
  refine r_iconst hO ci_0 dX1_mostAtLeastCost_25 ?_
  refine r_istore hO rfl rfl dX1_mostAtLeastCost_26 ?_
  exact r_jmp (b_X1_mostAtLeastCost_28 hO hR FU x1 x2 x3 x4 s0 (0 : Int32) σ) (lsub_c rfl (lsub_c rfl (lsub_c rfl (lsub_c rfl (lsub_c rfl (lsub_c rfl (lsub_c rfl lsub_n)))))))
set_option maxRecDepth 20000 in
set_option maxHeartbeats 1000000 in
theorem b_X1_mostAtLeastCost {K : Kt}  (hO : Ok K cX1_mostAtLeastCost RX1 8 rm_X1_mostAtLeastCost) (hR : Rt K (some .int))  (a1 : Int32) (a2 : Int32) (a3 : Int32) (σ : Wd) : Cm K 8 (0, 0) (f_X1_mostAtLeastCost a1 a2 a3 σ) σ 0 [(0, .ref (K.G.A 4)), (1, .int a1), (2, .int a2), (3, .int a3)] [] := by
  refine r_iconst hO ci_0 dX1_mostAtLeastCost_0 ?_
  refine r_istore hO rfl rfl dX1_mostAtLeastCost_1 ?_
  refine r_aload_n (i := 0) hO rfl rfl dX1_mostAtLeastCost_3 ?_
  refine gX1_22 hO dX1_mostAtLeastCost_4 ?_
  refine r_iload_n (i := 1) hO rfl rfl dX1_mostAtLeastCost_7 ?_
  refine r_iald hO s_6 dX1_mostAtLeastCost_8 ?_
  refine r_iload_n (i := 2) hO rfl rfl dX1_mostAtLeastCost_9 ?_
  refine r_icmp_ge (tgt := 22) hO dX1_mostAtLeastCost_10 (by decide) ?_ ?_
  · refine r_iload_n (i := 2) hO rfl rfl dX1_mostAtLeastCost_22 ?_
    exact r_jmp (b_X1_mostAtLeastCost_23 hO hR a1 a2 a3 (0 : Int32) a2 σ) (lsub_c rfl (lsub_c rfl (lsub_c rfl (lsub_c rfl (lsub_c rfl lsub_n)))))
  · refine r_aload_n (i := 0) hO rfl rfl dX1_mostAtLeastCost_13 ?_
    refine gX1_22 hO dX1_mostAtLeastCost_14 ?_
    refine r_iload_n (i := 1) hO rfl rfl dX1_mostAtLeastCost_17 ?_
    refine r_iald hO s_6 dX1_mostAtLeastCost_18 ?_
    refine r_goto (tgt := 23) hO dX1_mostAtLeastCost_19 (by decide) ?_
    exact r_jmp (b_X1_mostAtLeastCost_23 hO hR a1 a2 a3 (0 : Int32) (σ.1 6 (ix a1)) σ) (lsub_c rfl (lsub_c rfl (lsub_c rfl (lsub_c rfl (lsub_c rfl lsub_n)))))
theorem c_X1_mostAtLeastCost {l : Launch} {G : Gh}   (a1 : Int32) (a2 : Int32) (a3 : Int32) (σ : Wd) : Con l G yX1_mostAtLeastCost cX1_mostAtLeastCost 8 (some .int) 0 0 [.ref (G.A 4), .int a1, .int a2, .int a3] σ (f_X1_mostAtLeastCost a1 a2 a3 σ) := Con.of (plainFor_of_name (by decide)) rfl (Nat.le_of_ble_eq_true rfl) (fun K hl hG hO hR => by subst hl; subst hG; exact b_X1_mostAtLeastCost hO hR  a1 a2 a3 σ)
theorem cal_X1_mostAtLeastCost : CalV yX1_mostAtLeastCost cX1_mostAtLeastCost 8 (some .int) 3 := ⟨a_55, a_56, a_57, a_48, by decide, by decide, by decide +kernel⟩
theorem k_X1_mostAtLeastCost {K : Kt} {nL : Nat} {cs : Nat × Nat} {σ : Wd} {pc : Nat} {lv : List (Nat × Value)} {st : List Value} {cc : ByteArray} {own : String} {rm : Room} {index : Nat} {g : Int32 → Wd → Option (Int32 × Wd)} {a1 : Int32} {a2 : Int32} {a3 : Int32} (hO : Ok K cc own nL rm)  (hl : Cond.methodLink own index yX1_mostAtLeastCost ∈ gtb) (hcat : Nat.ble ((st.map fun v => v.category).sum) 8 = true) (hR : RoomOk rm cs 0 0 8) (d : decode cc pc = .ok (.invokevirtual index, 3)) (kk : ∀ (r : Int32) (σ : Wd), Cm K nL cs (g r σ) σ (pc + 3) lv (.int r :: st)) : Cm K nL cs (bd (f_X1_mostAtLeastCost a1 a2 a3 σ) g) σ pc lv (.int a3 :: .int a2 :: .int a1 :: .ref (K.G.A 4) :: st) := r_cVi hO (c_X1_mostAtLeastCost  a1 a2 a3 σ) cal_X1_mostAtLeastCost hl rfl (by decide) ent_X1 rfl rfl hcat hR d kk
/-! OrderSplit_Chooser.deal -/
def f_X1_deal_7 (m1 : Nat)  : Nat → Int32 → Int32 → Wd → Option (Int32 × Wd)
  | 0 => fun _ _ _ => none
  | n + 1 => fun x2 x3 σ => if (σ.1 m1 3) ≤ x3 then (some (0, σ)) else (bd (f_X3_lotOf m1 x3 σ) fun r1 σ2 => bd (f_X1_mostAtLeastCost x3 x2 r1 σ2) fun r3 σ4 => gd (inb x3 5) (nmW (wi σ4 5 (ix x3) r3) fun σ5 => gd (inb x3 5) ((f_X1_deal_7 m1 n (x2 - (σ5.1 5 (ix x3))) (x3 + (1 : Int32)) σ5))))
def f_X1_deal (m1 : Nat) (σ : Wd) : Option (Int32 × Wd) := (f_X1_deal_7 m1 FU (σ.1 4 0) (0 : Int32) σ)
set_option maxRecDepth 20000 in
set_option maxHeartbeats 1000000 in
theorem b_X1_deal_7 {K : Kt} {m1 : Nat}  (hO : Ok K cX1_deal RX1 4 rm_X1_deal) (hR : Rt K none) (hm1 : isM m1)  : ∀ (n : Nat) (x2 : Int32) (x3 : Int32) (σ : Wd) , Cm K 4 (0, 0) (f_X1_deal_7 m1 n x2 x3 σ) σ 7 [(0, .ref (K.G.A 4)), (1, .ref (K.G.A m1)), (2, .int x2), (3, .int x3)] [] := by
  intro n
  induction n with
  | zero => intro x2 x3 σ ; exact r_none
  | succ n ih =>
    intro x2 x3 σ 
    refine r_iload_n (i := 3) hO rfl rfl dX1_deal_7 ?_
    refine r_aload_n (i := 1) hO rfl rfl dX1_deal_8 ?_
    refine gX1_38 hO hm1 dX1_deal_9 ?_
    refine r_icmp_ge (tgt := 47) hO dX1_deal_12 (by decide) ?_ ?_
    · exact r_vret hO hR dX1_deal_47
    · refine r_aload_n (i := 0) hO rfl rfl dX1_deal_15 ?_
      refine gX1_18 hO dX1_deal_16 ?_
      refine r_iload_n (i := 3) hO rfl rfl dX1_deal_19 ?_
      refine r_aload_n (i := 0) hO rfl rfl dX1_deal_20 ?_
      refine r_iload_n (i := 3) hO rfl rfl dX1_deal_21 ?_
      refine r_iload_n (i := 2) hO rfl rfl dX1_deal_22 ?_
      refine r_aload_n (i := 1) hO rfl rfl dX1_deal_23 ?_
      refine r_iload_n (i := 3) hO rfl rfl dX1_deal_24 ?_
      refine k_X3_lotOf hO hm1 a_43 rfl ⟨rfl, rfl, Nat.le_refl _, Nat.le_refl _⟩ dX1_deal_25 ?_
      intro r1 σ2
      refine k_X1_mostAtLeastCost hO a_58 rfl ⟨rfl, rfl, Nat.le_refl _, Nat.le_refl _⟩ dX1_deal_28 ?_
      intro r3 σ4
      refine r_iast hO s_5 dX1_deal_31 ?_
      refine r_nmW fun σ5 => ?_
      refine r_iload_n (i := 2) hO rfl rfl dX1_deal_32 ?_
      refine r_aload_n (i := 0) hO rfl rfl dX1_deal_33 ?_
      refine gX1_18 hO dX1_deal_34 ?_
      refine r_iload_n (i := 3) hO rfl rfl dX1_deal_37 ?_
      refine r_iald hO s_5 dX1_deal_38 ?_
      refine r_isub hO dX1_deal_39 ?_
      refine r_istore_n (i := 2) hO rfl rfl rfl dX1_deal_40 ?_
      refine r_iinc hO rfl ci_1 rfl rfl dX1_deal_41 ?_
      refine r_goto (tgt := 7) hO dX1_deal_44 (by decide) ?_
      exact r_jmp (ih (x2 - (σ5.1 5 (ix x3))) (x3 + (1 : Int32)) σ5) (lsub_c rfl (lsub_c rfl (lsub_c rfl (lsub_c rfl lsub_n))))
set_option maxRecDepth 20000 in
set_option maxHeartbeats 1000000 in
theorem b_X1_deal {K : Kt} {m1 : Nat} (hO : Ok K cX1_deal RX1 4 rm_X1_deal) (hR : Rt K none) (hm1 : isM m1)  (σ : Wd) : Cm K 4 (0, 0) (f_X1_deal m1 σ) σ 0 [(0, .ref (K.G.A 4)), (1, .ref (K.G.A m1))] [] := by
  refine r_aload_n (i := 0) hO rfl rfl dX1_deal_0 ?_
  refine gX1_9 hO dX1_deal_1 ?_
  refine r_istore_n (i := 2) hO rfl rfl rfl dX1_deal_4 ?_
  refine r_iconst hO ci_0 dX1_deal_5 ?_
  refine r_istore_n (i := 3) hO rfl rfl rfl dX1_deal_6 ?_
  exact r_jmp (b_X1_deal_7 hO hR hm1 FU (σ.1 4 0) (0 : Int32) σ) (lsub_c rfl (lsub_c rfl (lsub_c rfl (lsub_c rfl lsub_n))))
theorem c_X1_deal {l : Launch} {G : Gh} {m1 : Nat} (hm1 : isM m1)  (σ : Wd) : Con l G yX1_deal cX1_deal 4 none 1 27 [.ref (G.A 4), .ref (G.A m1)] σ (f_X1_deal m1 σ) := Con.of (plainFor_of_name (by decide)) rfl (Nat.le_of_ble_eq_true rfl) (fun K hl hG hO hR => by subst hl; subst hG; exact b_X1_deal hO hR hm1  σ)
theorem cal_X1_deal : CalV yX1_deal cX1_deal 4 none 1 := ⟨a_59, a_60, a_61, a_48, by decide, by decide, by decide +kernel⟩
theorem k_X1_deal {K : Kt} {nL : Nat} {cs : Nat × Nat} {σ : Wd} {pc : Nat} {lv : List (Nat × Value)} {st : List Value} {cc : ByteArray} {own : String} {rm : Room} {index : Nat} {g : Int32 → Wd → Option (Int32 × Wd)} {m1 : Nat} (hO : Ok K cc own nL rm) (hm1 : isM m1) (hl : Cond.methodLink own index yX1_deal ∈ gtb) (hcat : Nat.ble ((st.map fun v => v.category).sum) 8 = true) (hR : RoomOk rm cs 1 27 4) (d : decode cc pc = .ok (.invokevirtual index, 3)) (kk : ∀ (r : Int32) (σ : Wd), Cm K nL cs (g r σ) σ (pc + 3) lv st) : Cm K nL cs (bd (f_X1_deal m1 σ) g) σ pc lv (.ref (K.G.A m1) :: .ref (K.G.A 4) :: st) := r_cVv hO (c_X1_deal hm1  σ) cal_X1_deal hl rfl (by decide) ent_X1 rfl rfl hcat hR d kk
/-! OrderSplit_Chooser.choose -/
def f_X1_choose_44 (m1 : Nat) (k12 : Int32 → Int32 → Wd → Option (Int32 × Wd)) (x4 : Int32) (x5 : Int32) (s1 : Int32) (s2 : Int32) (σ : Wd) : Option (Int32 × Wd) := gd (inb s1 726) (nmW (wi σ 8 (ix s1) s2) fun σ1 => (k12 x4 (x5 + (1 : Int32)) σ1))
def f_X1_choose_67 (m1 : Nat) (k59 : Int32 → Int32 → Wd → Option (Int32 × Wd)) : Nat → Int32 → Int32 → Int32 → Wd → Option (Int32 × Wd)
  | 0 => fun _ _ _ _ => none
  | n + 1 => fun x4 x5 x6 σ => if x4 < x6 then (k59 x4 (x5 + (-1 : Int32)) σ) else (bd (f_X3_lotOf m1 x5 σ) fun r1 σ2 => bd (f_X1_leastCostFrom x5 x6 r1 σ2) fun r3 σ4 => gd (inb ((x5 * (121 : Int32)) + x6) 726) (nmW (wi σ4 8 (ix ((x5 * (121 : Int32)) + x6)) r3) fun σ5 => (f_X1_choose_67 m1 k59 n x4 x5 (x6 + (1 : Int32)) σ5)))
def f_X1_choose_59 (m1 : Nat)  : Nat → Int32 → Int32 → Wd → Option (Int32 × Wd)
  | 0 => fun _ _ _ => none
  | n + 1 => fun x4 x5 σ => if x5 < 0 then (bd (f_X1_mostUnits 8 726 x4 σ) fun r1 σ2 => nmW (wi σ2 4 0 r1) fun σ3 => gd (inb (σ3.1 4 0) 726) (nmW (wi σ3 4 1 (σ3.1 8 (ix (σ3.1 4 0)))) fun σ4 => bd (f_X1_deal m1 σ4) fun _ σ5 => some (0, σ5))) else (f_X1_choose_67 m1 (f_X1_choose_59 m1 n) FU x4 x5 (0 : Int32) σ)
def f_X1_choose_12 (m1 : Nat)  : Nat → Int32 → Int32 → Wd → Option (Int32 × Wd)
  | 0 => fun _ _ _ => none
  | n + 1 => fun x4 x5 σ => if x4 < x5 then (f_X1_choose_59 m1 FU x4 ((σ.1 m1 3) - (1 : Int32)) σ) else (if x5 = 0 then (f_X1_choose_44 m1 (f_X1_choose_12 m1 n) x4 x5 (((σ.1 m1 3) * (121 : Int32)) + x5) (0 : Int32) σ) else (f_X1_choose_44 m1 (f_X1_choose_12 m1 n) x4 x5 (((σ.1 m1 3) * (121 : Int32)) + x5) (1000000000 : Int32) σ))
def f_X1_choose (m1 : Nat) (a2 : Int32) (a3 : Int32) (σ : Wd) : Option (Int32 × Wd) := bd (f_X1_prepare m1 a2 a3 σ) fun r1 σ2 => (f_X1_choose_12 m1 FU r1 (0 : Int32) σ2)
set_option maxRecDepth 20000 in
set_option maxHeartbeats 1000000 in
theorem b_X1_choose_44 {K : Kt} {m1 : Nat} {k12 : Int32 → Int32 → Wd → Option (Int32 × Wd)} (hO : Ok K cX1_choose RX1 7 rm_X1_choose) (hR : Rt K none) (hm1 : isM m1)  (hk12 : ∀ (x4 : Int32) (x5 : Int32) (σ : Wd), Cm K 7 (0, 0) (k12 x4 x5 σ) σ 12 [(0, .ref (K.G.A 4)), (1, .ref (K.G.A m1)), (4, .int x4), (5, .int x5)] []) (x4 : Int32) (x5 : Int32) (s1 : Int32) (s2 : Int32) (σ : Wd)  : Cm K 7 (0, 0) (f_X1_choose_44 m1 k12 x4 x5 s1 s2 σ) σ 44 [(0, .ref (K.G.A 4)), (1, .ref (K.G.A m1)), (4, .int x4), (5, .int x5)] [.int s2, .int s1, .ref (K.G.A 8)] := by
  refine r_iast hO s_8 dX1_choose_44 ?_
  refine r_nmW fun σ1 => ?_
  refine r_iinc hO rfl ci_1 rfl rfl dX1_choose_45 ?_
  refine r_goto (tgt := 12) hO dX1_choose_48 (by decide) ?_
  exact r_jmp (hk12 x4 (x5 + (1 : Int32)) σ1) (lsub_c rfl (lsub_c rfl (lsub_c rfl (lsub_c rfl lsub_n))))
set_option maxRecDepth 20000 in
set_option maxHeartbeats 1000000 in
theorem b_X1_choose_67 {K : Kt} {m1 : Nat} {k59 : Int32 → Int32 → Wd → Option (Int32 × Wd)} (hO : Ok K cX1_choose RX1 7 rm_X1_choose) (hR : Rt K none) (hm1 : isM m1)  (hk59 : ∀ (x4 : Int32) (x5 : Int32) (σ : Wd), Cm K 7 (0, 0) (k59 x4 x5 σ) σ 59 [(0, .ref (K.G.A 4)), (1, .ref (K.G.A m1)), (4, .int x4), (5, .int x5)] []) : ∀ (n : Nat) (x4 : Int32) (x5 : Int32) (x6 : Int32) (σ : Wd) , Cm K 7 (0, 0) (f_X1_choose_67 m1 k59 n x4 x5 x6 σ) σ 67 [(0, .ref (K.G.A 4)), (1, .ref (K.G.A m1)), (4, .int x4), (5, .int x5), (6, .int x6)] [] := by
  intro n
  induction n with
  | zero => intro x4 x5 x6 σ ; exact r_none
  | succ n ih =>
    intro x4 x5 x6 σ 
    refine r_iload hO (d := dX1_choose_67) rfl ?_
    refine r_iload hO (d := dX1_choose_69) rfl ?_
    refine r_icmp_gt (tgt := 107) hO dX1_choose_71 (by decide) ?_ ?_
    · refine r_iinc hO rfl ci_m1 rfl rfl dX1_choose_107 ?_
      refine r_goto (tgt := 59) hO dX1_choose_110 (by decide) ?_
      exact r_jmp (hk59 x4 (x5 + (-1 : Int32)) σ) (lsub_c rfl (lsub_c rfl (lsub_c rfl (lsub_c rfl lsub_n))))
    · refine r_aload_n (i := 0) hO rfl rfl dX1_choose_74 ?_
      refine gX1_28 hO dX1_choose_75 ?_
      refine r_iload hO (d := dX1_choose_78) rfl ?_
      refine r_bipush hO bi_121 dX1_choose_80 ?_
      refine r_imul hO dX1_choose_82 ?_
      refine r_iload hO (d := dX1_choose_83) rfl ?_
      refine r_iadd hO dX1_choose_85 ?_
      refine r_aload_n (i := 0) hO rfl rfl dX1_choose_86 ?_
      refine r_iload hO (d := dX1_choose_87) rfl ?_
      refine r_iload hO (d := dX1_choose_89) rfl ?_
      refine r_aload_n (i := 1) hO rfl rfl dX1_choose_91 ?_
      refine r_iload hO (d := dX1_choose_92) rfl ?_
      refine k_X3_lotOf hO hm1 a_43 rfl ⟨rfl, rfl, Nat.le_refl _, Nat.le_refl _⟩ dX1_choose_94 ?_
      intro r1 σ2
      refine k_X1_leastCostFrom hO a_65 rfl ⟨rfl, rfl, Nat.le_refl _, Nat.le_refl _⟩ dX1_choose_97 ?_
      intro r3 σ4
      refine r_iast hO s_8 dX1_choose_100 ?_
      refine r_nmW fun σ5 => ?_
      refine r_iinc hO rfl ci_1 rfl rfl dX1_choose_101 ?_
      refine r_goto (tgt := 67) hO dX1_choose_104 (by decide) ?_
      exact r_jmp (ih x4 x5 (x6 + (1 : Int32)) σ5) (lsub_c rfl (lsub_c rfl (lsub_c rfl (lsub_c rfl (lsub_c rfl lsub_n)))))
set_option maxRecDepth 20000 in
set_option maxHeartbeats 1000000 in
theorem b_X1_choose_59 {K : Kt} {m1 : Nat}  (hO : Ok K cX1_choose RX1 7 rm_X1_choose) (hR : Rt K none) (hm1 : isM m1)  : ∀ (n : Nat) (x4 : Int32) (x5 : Int32) (σ : Wd) , Cm K 7 (0, 0) (f_X1_choose_59 m1 n x4 x5 σ) σ 59 [(0, .ref (K.G.A 4)), (1, .ref (K.G.A m1)), (4, .int x4), (5, .int x5)] [] := by
  intro n
  induction n with
  | zero => intro x4 x5 σ ; exact r_none
  | succ n ih =>
    intro x4 x5 σ 
    refine r_iload hO (d := dX1_choose_59) rfl ?_
    refine r_if_lt (tgt := 113) hO dX1_choose_61 (by decide) ?_ ?_
    · refine r_aload_n (i := 0) hO rfl rfl dX1_choose_113 ?_
      refine r_aload_n (i := 0) hO rfl rfl dX1_choose_114 ?_
      refine gX1_28 hO dX1_choose_115 ?_
      refine r_iload hO (d := dX1_choose_118) rfl ?_
      refine k_X1_mostUnits hO s_8 a_63 rfl ⟨rfl, rfl, Nat.le_refl _, Nat.le_refl _⟩ dX1_choose_120 ?_
      intro r1 σ2
      refine pX1_9 hO dX1_choose_123 ?_
      refine r_nmW fun σ3 => ?_
      refine r_aload_n (i := 0) hO rfl rfl dX1_choose_126 ?_
      refine r_aload_n (i := 0) hO rfl rfl dX1_choose_127 ?_
      refine gX1_28 hO dX1_choose_128 ?_
      refine r_aload_n (i := 0) hO rfl rfl dX1_choose_131 ?_
      refine gX1_9 hO dX1_choose_132 ?_
      refine r_iald hO s_8 dX1_choose_135 ?_
      refine pX1_15 hO dX1_choose_136 ?_
      refine r_nmW fun σ4 => ?_
      refine r_aload_n (i := 0) hO rfl rfl dX1_choose_139 ?_
      refine r_aload_n (i := 1) hO rfl rfl dX1_choose_140 ?_
      refine k_X1_deal hO hm1 a_64 rfl ⟨rfl, rfl, Nat.le_refl _, Nat.le_refl _⟩ dX1_choose_141 ?_
      intro _ σ5
      exact r_vret hO hR dX1_choose_144
    · refine r_iconst hO ci_0 dX1_choose_64 ?_
      refine r_istore hO rfl rfl dX1_choose_65 ?_
      exact r_jmp (b_X1_choose_67 hO hR hm1 ih FU x4 x5 (0 : Int32) σ) (lsub_c rfl (lsub_c rfl (lsub_c rfl (lsub_c rfl (lsub_c rfl lsub_n)))))
set_option maxRecDepth 20000 in
set_option maxHeartbeats 1000000 in
theorem b_X1_choose_12 {K : Kt} {m1 : Nat}  (hO : Ok K cX1_choose RX1 7 rm_X1_choose) (hR : Rt K none) (hm1 : isM m1)  : ∀ (n : Nat) (x4 : Int32) (x5 : Int32) (σ : Wd) , Cm K 7 (0, 0) (f_X1_choose_12 m1 n x4 x5 σ) σ 12 [(0, .ref (K.G.A 4)), (1, .ref (K.G.A m1)), (4, .int x4), (5, .int x5)] [] := by
  intro n
  induction n with
  | zero => intro x4 x5 σ ; exact r_none
  | succ n ih =>
    intro x4 x5 σ 
    refine r_iload hO (d := dX1_choose_12) rfl ?_
    refine r_iload hO (d := dX1_choose_14) rfl ?_
    refine r_icmp_gt (tgt := 51) hO dX1_choose_16 (by decide) ?_ ?_
    · refine r_aload_n (i := 1) hO rfl rfl dX1_choose_51 ?_
      refine gX1_38 hO hm1 dX1_choose_52 ?_
      refine r_iconst hO ci_1 dX1_choose_55 ?_
      refine r_isub hO dX1_choose_56 ?_
      refine r_istore hO rfl rfl dX1_choose_57 ?_
      exact r_jmp (b_X1_choose_59 hO hR hm1 FU x4 ((σ.1 m1 3) - (1 : Int32)) σ) (lsub_c rfl (lsub_c rfl (lsub_c rfl (lsub_c rfl lsub_n))))
    · refine r_aload_n (i := 0) hO rfl rfl dX1_choose_19 ?_
      refine gX1_28 hO dX1_choose_20 ?_
      refine r_aload_n (i := 1) hO rfl rfl dX1_choose_23 ?_
      refine gX1_38 hO hm1 dX1_choose_24 ?_
      refine r_bipush hO bi_121 dX1_choose_27 ?_
      refine r_imul hO dX1_choose_29 ?_
      refine r_iload hO (d := dX1_choose_30) rfl ?_
      refine r_iadd hO dX1_choose_32 ?_
      refine r_iload hO (d := dX1_choose_33) rfl ?_
      refine r_if_ne (tgt := 42) hO dX1_choose_35 (by decide) ?_ ?_
      · refine r_iconst hO ci_0 dX1_choose_38 ?_
        refine r_goto (tgt := 44) hO dX1_choose_39 (by decide) ?_
        exact r_jmp (b_X1_choose_44 hO hR hm1 ih x4 x5 (((σ.1 m1 3) * (121 : Int32)) + x5) (0 : Int32) σ) (lsub_c rfl (lsub_c rfl (lsub_c rfl (lsub_c rfl lsub_n))))
      · refine r_ldc hO a_49 dX1_choose_42 ?_
        exact r_jmp (b_X1_choose_44 hO hR hm1 ih x4 x5 (((σ.1 m1 3) * (121 : Int32)) + x5) (1000000000 : Int32) σ) (lsub_c rfl (lsub_c rfl (lsub_c rfl (lsub_c rfl lsub_n))))
set_option maxRecDepth 20000 in
set_option maxHeartbeats 1000000 in
theorem b_X1_choose {K : Kt} {m1 : Nat} (hO : Ok K cX1_choose RX1 7 rm_X1_choose) (hR : Rt K none) (hm1 : isM m1) (a2 : Int32) (a3 : Int32) (σ : Wd) : Cm K 7 (0, 0) (f_X1_choose m1 a2 a3 σ) σ 0 [(0, .ref (K.G.A 4)), (1, .ref (K.G.A m1)), (2, .int a2), (3, .int a3)] [] := by
  refine r_aload_n (i := 0) hO rfl rfl dX1_choose_0 ?_
  refine r_aload_n (i := 1) hO rfl rfl dX1_choose_1 ?_
  refine r_iload_n (i := 2) hO rfl rfl dX1_choose_2 ?_
  refine r_iload_n (i := 3) hO rfl rfl dX1_choose_3 ?_
  refine k_X1_prepare hO hm1 a_62 rfl ⟨rfl, rfl, Nat.le_refl _, Nat.le_refl _⟩ dX1_choose_4 ?_
  intro r1 σ2
  refine r_istore hO rfl rfl dX1_choose_7 ?_
  refine r_iconst hO ci_0 dX1_choose_9 ?_
  refine r_istore hO rfl rfl dX1_choose_10 ?_
  exact r_jmp (b_X1_choose_12 hO hR hm1 FU r1 (0 : Int32) σ2) (lsub_c rfl (lsub_c rfl (lsub_c rfl (lsub_c rfl lsub_n))))
theorem c_X1_choose {l : Launch} {G : Gh} {m1 : Nat} (hm1 : isM m1) (a2 : Int32) (a3 : Int32) (σ : Wd) : Con l G yX1_choose cX1_choose 7 none 3 77 [.ref (G.A 4), .ref (G.A m1), .int a2, .int a3] σ (f_X1_choose m1 a2 a3 σ) := Con.of (plainFor_of_name (by decide)) rfl (Nat.le_of_ble_eq_true rfl) (fun K hl hG hO hR => by subst hl; subst hG; exact b_X1_choose hO hR hm1 a2 a3 σ)
theorem cal_X1_choose : CalV yX1_choose cX1_choose 7 none 3 := ⟨a_66, a_67, a_68, a_48, by decide, by decide, by decide +kernel⟩
theorem k_X1_choose {K : Kt} {nL : Nat} {cs : Nat × Nat} {σ : Wd} {pc : Nat} {lv : List (Nat × Value)} {st : List Value} {cc : ByteArray} {own : String} {rm : Room} {index : Nat} {g : Int32 → Wd → Option (Int32 × Wd)} {m1 : Nat} {a2 : Int32} {a3 : Int32} (hO : Ok K cc own nL rm) (hm1 : isM m1) (hl : Cond.methodLink own index yX1_choose ∈ gtb) (hcat : Nat.ble ((st.map fun v => v.category).sum) 8 = true) (hR : RoomOk rm cs 3 77 7) (d : decode cc pc = .ok (.invokevirtual index, 3)) (kk : ∀ (r : Int32) (σ : Wd), Cm K nL cs (g r σ) σ (pc + 3) lv st) : Cm K nL cs (bd (f_X1_choose m1 a2 a3 σ) g) σ pc lv (.int a3 :: .int a2 :: .ref (K.G.A m1) :: .ref (K.G.A 4) :: st) := r_cVv hO (c_X1_choose hm1 a2 a3 σ) cal_X1_choose hl rfl (by decide) ent_X1 rfl rfl hcat hR d kk
/-! OrderSplit_Chooser.nextLotCost -/
def f_X1_nextLotCost (a1 : Int32) (a2 : Int32) (σ : Wd) : Option (Int32 × Wd) := gd (inb a1 5) (gd (inb (((a1 * (121 : Int32)) + (σ.1 5 (ix a1))) + a2) 605) (gd (inb ((a1 * (121 : Int32)) + (σ.1 5 (ix a1))) 605) (some ((σ.1 7 (ix (((a1 * (121 : Int32)) + (σ.1 5 (ix a1))) + a2))) - (σ.1 7 (ix ((a1 * (121 : Int32)) + (σ.1 5 (ix a1))))), σ))))
set_option maxRecDepth 20000 in
set_option maxHeartbeats 1000000 in
theorem b_X1_nextLotCost {K : Kt}  (hO : Ok K cX1_nextLotCost RX1 4 rm_X1_nextLotCost) (hR : Rt K (some .int))  (a1 : Int32) (a2 : Int32) (σ : Wd) : Cm K 4 (0, 0) (f_X1_nextLotCost a1 a2 σ) σ 0 [(0, .ref (K.G.A 4)), (1, .int a1), (2, .int a2)] [] := by
  refine r_iload_n (i := 1) hO rfl rfl dX1_nextLotCost_0 ?_
  refine r_bipush hO bi_121 dX1_nextLotCost_1 ?_
  refine r_imul hO dX1_nextLotCost_3 ?_
  refine r_aload_n (i := 0) hO rfl rfl dX1_nextLotCost_4 ?_
  refine gX1_18 hO dX1_nextLotCost_5 ?_
  refine r_iload_n (i := 1) hO rfl rfl dX1_nextLotCost_8 ?_
  refine r_iald hO s_5 dX1_nextLotCost_9 ?_
  refine r_iadd hO dX1_nextLotCost_10 ?_
  refine r_istore_n (i := 3) hO rfl rfl rfl dX1_nextLotCost_11 ?_
  refine r_aload_n (i := 0) hO rfl rfl dX1_nextLotCost_12 ?_
  refine gX1_25 hO dX1_nextLotCost_13 ?_
  refine r_iload_n (i := 3) hO rfl rfl dX1_nextLotCost_16 ?_
  refine r_iload_n (i := 2) hO rfl rfl dX1_nextLotCost_17 ?_
  refine r_iadd hO dX1_nextLotCost_18 ?_
  refine r_iald hO s_7 dX1_nextLotCost_19 ?_
  refine r_aload_n (i := 0) hO rfl rfl dX1_nextLotCost_20 ?_
  refine gX1_25 hO dX1_nextLotCost_21 ?_
  refine r_iload_n (i := 3) hO rfl rfl dX1_nextLotCost_24 ?_
  refine r_iald hO s_7 dX1_nextLotCost_25 ?_
  refine r_isub hO dX1_nextLotCost_26 ?_
  exact r_iret hO hR dX1_nextLotCost_27
theorem c_X1_nextLotCost {l : Launch} {G : Gh}   (a1 : Int32) (a2 : Int32) (σ : Wd) : Con l G yX1_nextLotCost cX1_nextLotCost 4 (some .int) 0 0 [.ref (G.A 4), .int a1, .int a2] σ (f_X1_nextLotCost a1 a2 σ) := Con.of (plainFor_of_name (by decide)) rfl (Nat.le_of_ble_eq_true rfl) (fun K hl hG hO hR => by subst hl; subst hG; exact b_X1_nextLotCost hO hR  a1 a2 σ)
theorem cal_X1_nextLotCost : CalV yX1_nextLotCost cX1_nextLotCost 4 (some .int) 2 := ⟨a_69, a_70, a_71, a_48, by decide, by decide, by decide +kernel⟩
theorem k_X1_nextLotCost {K : Kt} {nL : Nat} {cs : Nat × Nat} {σ : Wd} {pc : Nat} {lv : List (Nat × Value)} {st : List Value} {cc : ByteArray} {own : String} {rm : Room} {index : Nat} {g : Int32 → Wd → Option (Int32 × Wd)} {a1 : Int32} {a2 : Int32} (hO : Ok K cc own nL rm)  (hl : Cond.methodLink own index yX1_nextLotCost ∈ gtb) (hcat : Nat.ble ((st.map fun v => v.category).sum) 8 = true) (hR : RoomOk rm cs 0 0 4) (d : decode cc pc = .ok (.invokevirtual index, 3)) (kk : ∀ (r : Int32) (σ : Wd), Cm K nL cs (g r σ) σ (pc + 3) lv (.int r :: st)) : Cm K nL cs (bd (f_X1_nextLotCost a1 a2 σ) g) σ pc lv (.int a2 :: .int a1 :: .ref (K.G.A 4) :: st) := r_cVi hO (c_X1_nextLotCost  a1 a2 σ) cal_X1_nextLotCost hl rfl (by decide) ent_X1 rfl rfl hcat hR d kk
/-! OrderSplit_Chooser.cheapestNextLot -/
def f_X1_cheapestNextLot_96 (m1 : Nat) (k11 : Int32 → Int32 → Int32 → Int32 → Int32 → Wd → Option (Int32 × Wd)) (x2 : Int32) (x3 : Int32) (x4 : Int32) (x5 : Int32) (x6 : Int32) (σ : Wd) : Option (Int32 × Wd) := (k11 x2 x3 x4 x5 (x6 + (1 : Int32)) σ)
def f_X1_cheapestNextLot_85 (m1 : Nat) (k11 : Int32 → Int32 → Int32 → Int32 → Int32 → Wd → Option (Int32 × Wd)) (x2 : Int32) (x6 : Int32) (x7 : Int32) (x8 : Int32) (σ : Wd) : Option (Int32 × Wd) := (f_X1_cheapestNextLot_96 m1 k11 x2 x6 x8 x7 x6 σ)
def f_X1_cheapestNextLot_11 (m1 : Nat)  : Nat → Int32 → Int32 → Int32 → Int32 → Int32 → Wd → Option (Int32 × Wd)
  | 0 => fun _ _ _ _ _ _ => none
  | n + 1 => fun x2 x3 x4 x5 x6 σ => if (σ.1 m1 3) ≤ x6 then (some (x3, σ)) else (bd (f_X3_lotOf m1 x6 σ) fun r1 σ2 => if x2 < r1 then (f_X1_cheapestNextLot_96 m1 (f_X1_cheapestNextLot_11 m1 n) x2 x3 x4 x5 x6 σ2) else (gd (inb x6 5) (gd (inb x6 5) (if ((σ2.1 5 (ix x6)) + r1) ≤ (σ2.1 6 (ix x6)) then (bd (f_X1_nextLotCost x6 r1 σ2) fun r3 σ4 => if x3 = (-1 : Int32) then (f_X1_cheapestNextLot_85 m1 (f_X1_cheapestNextLot_11 m1 n) x2 x6 r1 r3 σ4) else (if (x4 * r1) ≤ (r3 * x5) then (f_X1_cheapestNextLot_96 m1 (f_X1_cheapestNextLot_11 m1 n) x2 x3 x4 x5 x6 σ4) else (f_X1_cheapestNextLot_85 m1 (f_X1_cheapestNextLot_11 m1 n) x2 x6 r1 r3 σ4))) else (f_X1_cheapestNextLot_96 m1 (f_X1_cheapestNextLot_11 m1 n) x2 x3 x4 x5 x6 σ2)))))
def f_X1_cheapestNextLot (m1 : Nat) (a2 : Int32) (σ : Wd) : Option (Int32 × Wd) := (f_X1_cheapestNextLot_11 m1 FU a2 (-1 : Int32) (0 : Int32) (1 : Int32) (0 : Int32) σ)
set_option maxRecDepth 20000 in
set_option maxHeartbeats 1000000 in
theorem b_X1_cheapestNextLot_96 {K : Kt} {m1 : Nat} {k11 : Int32 → Int32 → Int32 → Int32 → Int32 → Wd → Option (Int32 × Wd)} (hO : Ok K cX1_cheapestNextLot RX1 9 rm_X1_cheapestNextLot) (hR : Rt K (some .int)) (hm1 : isM m1)  (hk11 : ∀ (x2 : Int32) (x3 : Int32) (x4 : Int32) (x5 : Int32) (x6 : Int32) (σ : Wd), Cm K 9 (0, 0) (k11 x2 x3 x4 x5 x6 σ) σ 11 [(0, .ref (K.G.A 4)), (1, .ref (K.G.A m1)), (2, .int x2), (3, .int x3), (4, .int x4), (5, .int x5), (6, .int x6)] []) (x2 : Int32) (x3 : Int32) (x4 : Int32) (x5 : Int32) (x6 : Int32) (σ : Wd)  : Cm K 9 (0, 0) (f_X1_cheapestNextLot_96 m1 k11 x2 x3 x4 x5 x6 σ) σ 96 [(0, .ref (K.G.A 4)), (1, .ref (K.G.A m1)), (2, .int x2), (3, .int x3), (4, .int x4), (5, .int x5), (6, .int x6)] [] := by
  refine r_iinc hO rfl ci_1 rfl rfl dX1_cheapestNextLot_96 ?_
  refine r_goto (tgt := 11) hO dX1_cheapestNextLot_99 (by decide) ?_
  exact r_jmp (hk11 x2 x3 x4 x5 (x6 + (1 : Int32)) σ) (lsub_c rfl (lsub_c rfl (lsub_c rfl (lsub_c rfl (lsub_c rfl (lsub_c rfl (lsub_c rfl lsub_n)))))))
set_option maxRecDepth 20000 in
set_option maxHeartbeats 1000000 in
theorem b_X1_cheapestNextLot_85 {K : Kt} {m1 : Nat} {k11 : Int32 → Int32 → Int32 → Int32 → Int32 → Wd → Option (Int32 × Wd)} (hO : Ok K cX1_cheapestNextLot RX1 9 rm_X1_cheapestNextLot) (hR : Rt K (some .int)) (hm1 : isM m1)  (hk11 : ∀ (x2 : Int32) (x3 : Int32) (x4 : Int32) (x5 : Int32) (x6 : Int32) (σ : Wd), Cm K 9 (0, 0) (k11 x2 x3 x4 x5 x6 σ) σ 11 [(0, .ref (K.G.A 4)), (1, .ref (K.G.A m1)), (2, .int x2), (3, .int x3), (4, .int x4), (5, .int x5), (6, .int x6)] []) (x2 : Int32) (x6 : Int32) (x7 : Int32) (x8 : Int32) (σ : Wd)  : Cm K 9 (0, 0) (f_X1_cheapestNextLot_85 m1 k11 x2 x6 x7 x8 σ) σ 85 [(0, .ref (K.G.A 4)), (1, .ref (K.G.A m1)), (2, .int x2), (6, .int x6), (7, .int x7), (8, .int x8)] [] := by
  refine r_iload hO (d := dX1_cheapestNextLot_85) rfl ?_
  refine r_istore_n (i := 3) hO rfl rfl rfl dX1_cheapestNextLot_87 ?_
  refine r_iload hO (d := dX1_cheapestNextLot_88) rfl ?_
  refine r_istore hO rfl rfl dX1_cheapestNextLot_90 ?_
  refine r_iload hO (d := dX1_cheapestNextLot_92) rfl ?_
  refine r_istore hO rfl rfl dX1_cheapestNextLot_94 ?_
  exact r_jmp (b_X1_cheapestNextLot_96 hO hR hm1 hk11 x2 x6 x8 x7 x6 σ) (lsub_c rfl (lsub_c rfl (lsub_c rfl (lsub_c rfl (lsub_c rfl (lsub_c rfl (lsub_c rfl lsub_n)))))))
set_option maxRecDepth 20000 in
set_option maxHeartbeats 1000000 in
theorem b_X1_cheapestNextLot_11 {K : Kt} {m1 : Nat}  (hO : Ok K cX1_cheapestNextLot RX1 9 rm_X1_cheapestNextLot) (hR : Rt K (some .int)) (hm1 : isM m1)  : ∀ (n : Nat) (x2 : Int32) (x3 : Int32) (x4 : Int32) (x5 : Int32) (x6 : Int32) (σ : Wd) , Cm K 9 (0, 0) (f_X1_cheapestNextLot_11 m1 n x2 x3 x4 x5 x6 σ) σ 11 [(0, .ref (K.G.A 4)), (1, .ref (K.G.A m1)), (2, .int x2), (3, .int x3), (4, .int x4), (5, .int x5), (6, .int x6)] [] := by
  intro n
  induction n with
  | zero => intro x2 x3 x4 x5 x6 σ ; exact r_none
  | succ n ih =>
    intro x2 x3 x4 x5 x6 σ 
    refine r_iload hO (d := dX1_cheapestNextLot_11) rfl ?_
    refine r_aload_n (i := 1) hO rfl rfl dX1_cheapestNextLot_13 ?_
    refine gX1_38 hO hm1 dX1_cheapestNextLot_14 ?_
    refine r_icmp_ge (tgt := 102) hO dX1_cheapestNextLot_17 (by decide) ?_ ?_
    · refine r_iload_n (i := 3) hO rfl rfl dX1_cheapestNextLot_102 ?_
      exact r_iret hO hR dX1_cheapestNextLot_103
    · refine r_aload_n (i := 1) hO rfl rfl dX1_cheapestNextLot_20 ?_
      refine r_iload hO (d := dX1_cheapestNextLot_21) rfl ?_
      refine k_X3_lotOf hO hm1 a_43 rfl ⟨rfl, rfl, Nat.le_refl _, Nat.le_refl _⟩ dX1_cheapestNextLot_23 ?_
      intro r1 σ2
      refine r_istore hO rfl rfl dX1_cheapestNextLot_26 ?_
      refine r_iload hO (d := dX1_cheapestNextLot_28) rfl ?_
      refine r_iload_n (i := 2) hO rfl rfl dX1_cheapestNextLot_30 ?_
      refine r_icmp_gt (tgt := 96) hO dX1_cheapestNextLot_31 (by decide) ?_ ?_
      · exact r_jmp (b_X1_cheapestNextLot_96 hO hR hm1 ih x2 x3 x4 x5 x6 σ2) (lsub_c rfl (lsub_c rfl (lsub_c rfl (lsub_c rfl (lsub_c rfl (lsub_c rfl (lsub_c rfl lsub_n)))))))
      · refine r_aload_n (i := 0) hO rfl rfl dX1_cheapestNextLot_34 ?_
        refine gX1_18 hO dX1_cheapestNextLot_35 ?_
        refine r_iload hO (d := dX1_cheapestNextLot_38) rfl ?_
        refine r_iald hO s_5 dX1_cheapestNextLot_40 ?_
        refine r_iload hO (d := dX1_cheapestNextLot_41) rfl ?_
        refine r_iadd hO dX1_cheapestNextLot_43 ?_
        refine r_aload_n (i := 0) hO rfl rfl dX1_cheapestNextLot_44 ?_
        refine gX1_22 hO dX1_cheapestNextLot_45 ?_
        refine r_iload hO (d := dX1_cheapestNextLot_48) rfl ?_
        refine r_iald hO s_6 dX1_cheapestNextLot_50 ?_
        refine r_icmp_le (tgt := 57) hO dX1_cheapestNextLot_51 (by decide) ?_ ?_
        · refine r_aload_n (i := 0) hO rfl rfl dX1_cheapestNextLot_57 ?_
          refine r_iload hO (d := dX1_cheapestNextLot_58) rfl ?_
          refine r_iload hO (d := dX1_cheapestNextLot_60) rfl ?_
          refine k_X1_nextLotCost hO a_72 rfl ⟨rfl, rfl, Nat.le_refl _, Nat.le_refl _⟩ dX1_cheapestNextLot_62 ?_
          intro r3 σ4
          refine r_istore hO rfl rfl dX1_cheapestNextLot_65 ?_
          refine r_iload_n (i := 3) hO rfl rfl dX1_cheapestNextLot_67 ?_
          refine r_iconst hO ci_m1 dX1_cheapestNextLot_68 ?_
          refine r_icmp_eq (tgt := 85) hO dX1_cheapestNextLot_69 (by decide) ?_ ?_
          · exact r_jmp (b_X1_cheapestNextLot_85 hO hR hm1 ih x2 x6 r1 r3 σ4) (lsub_c rfl (lsub_c rfl (lsub_c rfl (lsub_c rfl (lsub_c rfl (lsub_c rfl lsub_n))))))
          · refine r_iload hO (d := dX1_cheapestNextLot_72) rfl ?_
            refine r_iload hO (d := dX1_cheapestNextLot_74) rfl ?_
            refine r_imul hO dX1_cheapestNextLot_76 ?_
            refine r_iload hO (d := dX1_cheapestNextLot_77) rfl ?_
            refine r_iload hO (d := dX1_cheapestNextLot_79) rfl ?_
            refine r_imul hO dX1_cheapestNextLot_81 ?_
            refine r_icmp_ge (tgt := 96) hO dX1_cheapestNextLot_82 (by decide) ?_ ?_
            · exact r_jmp (b_X1_cheapestNextLot_96 hO hR hm1 ih x2 x3 x4 x5 x6 σ4) (lsub_c rfl (lsub_c rfl (lsub_c rfl (lsub_c rfl (lsub_c rfl (lsub_c rfl (lsub_c rfl lsub_n)))))))
            · exact r_jmp (b_X1_cheapestNextLot_85 hO hR hm1 ih x2 x6 r1 r3 σ4) (lsub_c rfl (lsub_c rfl (lsub_c rfl (lsub_c rfl (lsub_c rfl (lsub_c rfl lsub_n))))))
        · refine r_goto (tgt := 96) hO dX1_cheapestNextLot_54 (by decide) ?_
          exact r_jmp (b_X1_cheapestNextLot_96 hO hR hm1 ih x2 x3 x4 x5 x6 σ2) (lsub_c rfl (lsub_c rfl (lsub_c rfl (lsub_c rfl (lsub_c rfl (lsub_c rfl (lsub_c rfl lsub_n)))))))
set_option maxRecDepth 20000 in
set_option maxHeartbeats 1000000 in
theorem b_X1_cheapestNextLot {K : Kt} {m1 : Nat} (hO : Ok K cX1_cheapestNextLot RX1 9 rm_X1_cheapestNextLot) (hR : Rt K (some .int)) (hm1 : isM m1) (a2 : Int32) (σ : Wd) : Cm K 9 (0, 0) (f_X1_cheapestNextLot m1 a2 σ) σ 0 [(0, .ref (K.G.A 4)), (1, .ref (K.G.A m1)), (2, .int a2)] [] := by
  refine r_iconst hO ci_m1 dX1_cheapestNextLot_0 ?_
  refine r_istore_n (i := 3) hO rfl rfl rfl dX1_cheapestNextLot_1 ?_
  refine r_iconst hO ci_0 dX1_cheapestNextLot_2 ?_
  refine r_istore hO rfl rfl dX1_cheapestNextLot_3 ?_
  refine r_iconst hO ci_1 dX1_cheapestNextLot_5 ?_
  refine r_istore hO rfl rfl dX1_cheapestNextLot_6 ?_
  refine r_iconst hO ci_0 dX1_cheapestNextLot_8 ?_
  refine r_istore hO rfl rfl dX1_cheapestNextLot_9 ?_
  exact r_jmp (b_X1_cheapestNextLot_11 hO hR hm1 FU a2 (-1 : Int32) (0 : Int32) (1 : Int32) (0 : Int32) σ) (lsub_c rfl (lsub_c rfl (lsub_c rfl (lsub_c rfl (lsub_c rfl (lsub_c rfl (lsub_c rfl lsub_n)))))))
theorem c_X1_cheapestNextLot {l : Launch} {G : Gh} {m1 : Nat} (hm1 : isM m1) (a2 : Int32) (σ : Wd) : Con l G yX1_cheapestNextLot cX1_cheapestNextLot 9 (some .int) 1 23 [.ref (G.A 4), .ref (G.A m1), .int a2] σ (f_X1_cheapestNextLot m1 a2 σ) := Con.of (plainFor_of_name (by decide)) rfl (Nat.le_of_ble_eq_true rfl) (fun K hl hG hO hR => by subst hl; subst hG; exact b_X1_cheapestNextLot hO hR hm1 a2 σ)
theorem cal_X1_cheapestNextLot : CalV yX1_cheapestNextLot cX1_cheapestNextLot 9 (some .int) 2 := ⟨a_73, a_74, a_75, a_48, by decide, by decide, by decide +kernel⟩
theorem k_X1_cheapestNextLot {K : Kt} {nL : Nat} {cs : Nat × Nat} {σ : Wd} {pc : Nat} {lv : List (Nat × Value)} {st : List Value} {cc : ByteArray} {own : String} {rm : Room} {index : Nat} {g : Int32 → Wd → Option (Int32 × Wd)} {m1 : Nat} {a2 : Int32} (hO : Ok K cc own nL rm) (hm1 : isM m1) (hl : Cond.methodLink own index yX1_cheapestNextLot ∈ gtb) (hcat : Nat.ble ((st.map fun v => v.category).sum) 8 = true) (hR : RoomOk rm cs 1 23 9) (d : decode cc pc = .ok (.invokevirtual index, 3)) (kk : ∀ (r : Int32) (σ : Wd), Cm K nL cs (g r σ) σ (pc + 3) lv (.int r :: st)) : Cm K nL cs (bd (f_X1_cheapestNextLot m1 a2 σ) g) σ pc lv (.int a2 :: .ref (K.G.A m1) :: .ref (K.G.A 4) :: st) := r_cVi hO (c_X1_cheapestNextLot hm1 a2 σ) cal_X1_cheapestNextLot hl rfl (by decide) ent_X1 rfl rfl hcat hR d kk
/-! OrderSplit_Chooser.chooseGreedily -/
def f_X1_chooseGreedily_43 (m1 : Nat)  : Nat → Int32 → Int32 → Wd → Option (Int32 × Wd)
  | 0 => fun _ _ _ => none
  | n + 1 => fun x2 x3 σ => if (120 : Int32) ≤ x3 then (some (0, σ)) else (bd (f_X1_cheapestNextLot m1 (x2 - (σ.1 4 0)) σ) fun r1 σ2 => if r1 = (-1 : Int32) then (some (0, σ2)) else (bd (f_X3_lotOf m1 r1 σ2) fun r3 σ4 => bd (f_X1_nextLotCost r1 r3 σ4) fun r5 σ6 => nmW (wi σ6 4 1 ((σ2.1 4 1) + r5)) fun σ7 => bd (f_X3_lotOf m1 r1 σ7) fun r8 σ9 => nmW (wi σ9 4 0 ((σ7.1 4 0) + r8)) fun σ10 => gd (inb r1 5) (bd (f_X3_lotOf m1 r1 σ10) fun r11 σ12 => gd (inb r1 5) (nmW (wi σ12 5 (ix r1) ((σ10.1 5 (ix r1)) + r11)) fun σ13 => (f_X1_chooseGreedily_43 m1 n x2 (x3 + (1 : Int32)) σ13)))))
def f_X1_chooseGreedily_20 (m1 : Nat)  : Nat → Int32 → Int32 → Wd → Option (Int32 × Wd)
  | 0 => fun _ _ _ => none
  | n + 1 => fun x2 x3 σ => if (σ.1 m1 3) ≤ x3 then (f_X1_chooseGreedily_43 m1 FU x2 (0 : Int32) σ) else (gd (inb x3 5) (nmW (wi σ 5 (ix x3) (0 : Int32)) fun σ1 => (f_X1_chooseGreedily_20 m1 n x2 (x3 + (1 : Int32)) σ1)))
def f_X1_chooseGreedily (m1 : Nat) (a2 : Int32) (σ : Wd) : Option (Int32 × Wd) := bd (f_X1_prepare m1 a2 (-1 : Int32) σ) fun r1 σ2 => nmW (wi σ2 4 0 (0 : Int32)) fun σ3 => nmW (wi σ3 4 1 (0 : Int32)) fun σ4 => (f_X1_chooseGreedily_20 m1 FU a2 (0 : Int32) σ4)
set_option maxRecDepth 20000 in
set_option maxHeartbeats 1000000 in
theorem b_X1_chooseGreedily_43 {K : Kt} {m1 : Nat}  (hO : Ok K cX1_chooseGreedily RX1 5 rm_X1_chooseGreedily) (hR : Rt K none) (hm1 : isM m1)  : ∀ (n : Nat) (x2 : Int32) (x3 : Int32) (σ : Wd) , Cm K 5 (0, 0) (f_X1_chooseGreedily_43 m1 n x2 x3 σ) σ 43 [(0, .ref (K.G.A 4)), (1, .ref (K.G.A m1)), (2, .int x2), (3, .int x3)] [] := by
  intro n
  induction n with
  | zero => intro x2 x3 σ ; exact r_none
  | succ n ih =>
    intro x2 x3 σ 
    refine r_iload_n (i := 3) hO rfl rfl dX1_chooseGreedily_43 ?_
    refine r_bipush hO bi_120 dX1_chooseGreedily_44 ?_
    refine r_icmp_ge (tgt := 127) hO dX1_chooseGreedily_46 (by decide) ?_ ?_
    · exact r_vret hO hR dX1_chooseGreedily_127
    · refine r_aload_n (i := 0) hO rfl rfl dX1_chooseGreedily_49 ?_
      refine r_aload_n (i := 1) hO rfl rfl dX1_chooseGreedily_50 ?_
      refine r_iload_n (i := 2) hO rfl rfl dX1_chooseGreedily_51 ?_
      refine r_aload_n (i := 0) hO rfl rfl dX1_chooseGreedily_52 ?_
      refine gX1_9 hO dX1_chooseGreedily_53 ?_
      refine r_isub hO dX1_chooseGreedily_56 ?_
      refine k_X1_cheapestNextLot hO hm1 a_76 rfl ⟨rfl, rfl, Nat.le_refl _, Nat.le_refl _⟩ dX1_chooseGreedily_57 ?_
      intro r1 σ2
      refine r_istore hO rfl rfl dX1_chooseGreedily_60 ?_
      refine r_iload hO (d := dX1_chooseGreedily_62) rfl ?_
      refine r_iconst hO ci_m1 dX1_chooseGreedily_64 ?_
      refine r_icmp_ne (tgt := 69) hO dX1_chooseGreedily_65 (by decide) ?_ ?_
      · exact r_vret hO hR dX1_chooseGreedily_68
      · refine r_aload_n (i := 0) hO rfl rfl dX1_chooseGreedily_69 ?_
        refine r_dup hO rfl dX1_chooseGreedily_70 ?_
        refine gX1_15 hO dX1_chooseGreedily_71 ?_
        refine r_aload_n (i := 0) hO rfl rfl dX1_chooseGreedily_74 ?_
        refine r_iload hO (d := dX1_chooseGreedily_75) rfl ?_
        refine r_aload_n (i := 1) hO rfl rfl dX1_chooseGreedily_77 ?_
        refine r_iload hO (d := dX1_chooseGreedily_78) rfl ?_
        refine k_X3_lotOf hO hm1 a_43 rfl ⟨rfl, rfl, Nat.le_refl _, Nat.le_refl _⟩ dX1_chooseGreedily_80 ?_
        intro r3 σ4
        refine k_X1_nextLotCost hO a_72 rfl ⟨rfl, rfl, Nat.le_refl _, Nat.le_refl _⟩ dX1_chooseGreedily_83 ?_
        intro r5 σ6
        refine r_iadd hO dX1_chooseGreedily_86 ?_
        refine pX1_15 hO dX1_chooseGreedily_87 ?_
        refine r_nmW fun σ7 => ?_
        refine r_aload_n (i := 0) hO rfl rfl dX1_chooseGreedily_90 ?_
        refine r_dup hO rfl dX1_chooseGreedily_91 ?_
        refine gX1_9 hO dX1_chooseGreedily_92 ?_
        refine r_aload_n (i := 1) hO rfl rfl dX1_chooseGreedily_95 ?_
        refine r_iload hO (d := dX1_chooseGreedily_96) rfl ?_
        refine k_X3_lotOf hO hm1 a_43 rfl ⟨rfl, rfl, Nat.le_refl _, Nat.le_refl _⟩ dX1_chooseGreedily_98 ?_
        intro r8 σ9
        refine r_iadd hO dX1_chooseGreedily_101 ?_
        refine pX1_9 hO dX1_chooseGreedily_102 ?_
        refine r_nmW fun σ10 => ?_
        refine r_aload_n (i := 0) hO rfl rfl dX1_chooseGreedily_105 ?_
        refine gX1_18 hO dX1_chooseGreedily_106 ?_
        refine r_iload hO (d := dX1_chooseGreedily_109) rfl ?_
        refine r_dup2 hO rfl rfl dX1_chooseGreedily_111 ?_
        refine r_iald hO s_5 dX1_chooseGreedily_112 ?_
        refine r_aload_n (i := 1) hO rfl rfl dX1_chooseGreedily_113 ?_
        refine r_iload hO (d := dX1_chooseGreedily_114) rfl ?_
        refine k_X3_lotOf hO hm1 a_43 rfl ⟨rfl, rfl, Nat.le_refl _, Nat.le_refl _⟩ dX1_chooseGreedily_116 ?_
        intro r11 σ12
        refine r_iadd hO dX1_chooseGreedily_119 ?_
        refine r_iast hO s_5 dX1_chooseGreedily_120 ?_
        refine r_nmW fun σ13 => ?_
        refine r_iinc hO rfl ci_1 rfl rfl dX1_chooseGreedily_121 ?_
        refine r_goto (tgt := 43) hO dX1_chooseGreedily_124 (by decide) ?_
        exact r_jmp (ih x2 (x3 + (1 : Int32)) σ13) (lsub_c rfl (lsub_c rfl (lsub_c rfl (lsub_c rfl lsub_n))))
set_option maxRecDepth 20000 in
set_option maxHeartbeats 1000000 in
theorem b_X1_chooseGreedily_20 {K : Kt} {m1 : Nat}  (hO : Ok K cX1_chooseGreedily RX1 5 rm_X1_chooseGreedily) (hR : Rt K none) (hm1 : isM m1)  : ∀ (n : Nat) (x2 : Int32) (x3 : Int32) (σ : Wd) , Cm K 5 (0, 0) (f_X1_chooseGreedily_20 m1 n x2 x3 σ) σ 20 [(0, .ref (K.G.A 4)), (1, .ref (K.G.A m1)), (2, .int x2), (3, .int x3)] [] := by
  intro n
  induction n with
  | zero => intro x2 x3 σ ; exact r_none
  | succ n ih =>
    intro x2 x3 σ 
    refine r_iload_n (i := 3) hO rfl rfl dX1_chooseGreedily_20 ?_
    refine r_aload_n (i := 1) hO rfl rfl dX1_chooseGreedily_21 ?_
    refine gX1_38 hO hm1 dX1_chooseGreedily_22 ?_
    refine r_icmp_ge (tgt := 41) hO dX1_chooseGreedily_25 (by decide) ?_ ?_
    · refine r_iconst hO ci_0 dX1_chooseGreedily_41 ?_
      refine r_istore_n (i := 3) hO rfl rfl rfl dX1_chooseGreedily_42 ?_
      exact r_jmp (b_X1_chooseGreedily_43 hO hR hm1 FU x2 (0 : Int32) σ) (lsub_c rfl (lsub_c rfl (lsub_c rfl (lsub_c rfl lsub_n))))
    · refine r_aload_n (i := 0) hO rfl rfl dX1_chooseGreedily_28 ?_
      refine gX1_18 hO dX1_chooseGreedily_29 ?_
      refine r_iload_n (i := 3) hO rfl rfl dX1_chooseGreedily_32 ?_
      refine r_iconst hO ci_0 dX1_chooseGreedily_33 ?_
      refine r_iast hO s_5 dX1_chooseGreedily_34 ?_
      refine r_nmW fun σ1 => ?_
      refine r_iinc hO rfl ci_1 rfl rfl dX1_chooseGreedily_35 ?_
      refine r_goto (tgt := 20) hO dX1_chooseGreedily_38 (by decide) ?_
      exact r_jmp (ih x2 (x3 + (1 : Int32)) σ1) (lsub_c rfl (lsub_c rfl (lsub_c rfl (lsub_c rfl lsub_n))))
set_option maxRecDepth 20000 in
set_option maxHeartbeats 1000000 in
theorem b_X1_chooseGreedily {K : Kt} {m1 : Nat} (hO : Ok K cX1_chooseGreedily RX1 5 rm_X1_chooseGreedily) (hR : Rt K none) (hm1 : isM m1) (a2 : Int32) (σ : Wd) : Cm K 5 (0, 0) (f_X1_chooseGreedily m1 a2 σ) σ 0 [(0, .ref (K.G.A 4)), (1, .ref (K.G.A m1)), (2, .int a2)] [] := by
  refine r_aload_n (i := 0) hO rfl rfl dX1_chooseGreedily_0 ?_
  refine r_aload_n (i := 1) hO rfl rfl dX1_chooseGreedily_1 ?_
  refine r_iload_n (i := 2) hO rfl rfl dX1_chooseGreedily_2 ?_
  refine r_iconst hO ci_m1 dX1_chooseGreedily_3 ?_
  refine k_X1_prepare hO hm1 a_62 rfl ⟨rfl, rfl, Nat.le_refl _, Nat.le_refl _⟩ dX1_chooseGreedily_4 ?_
  intro r1 σ2
  refine r_pop hO rfl dX1_chooseGreedily_7 ?_
  refine r_aload_n (i := 0) hO rfl rfl dX1_chooseGreedily_8 ?_
  refine r_iconst hO ci_0 dX1_chooseGreedily_9 ?_
  refine pX1_9 hO dX1_chooseGreedily_10 ?_
  refine r_nmW fun σ3 => ?_
  refine r_aload_n (i := 0) hO rfl rfl dX1_chooseGreedily_13 ?_
  refine r_iconst hO ci_0 dX1_chooseGreedily_14 ?_
  refine pX1_15 hO dX1_chooseGreedily_15 ?_
  refine r_nmW fun σ4 => ?_
  refine r_iconst hO ci_0 dX1_chooseGreedily_18 ?_
  refine r_istore_n (i := 3) hO rfl rfl rfl dX1_chooseGreedily_19 ?_
  exact r_jmp (b_X1_chooseGreedily_20 hO hR hm1 FU a2 (0 : Int32) σ4) (lsub_c rfl (lsub_c rfl (lsub_c rfl (lsub_c rfl lsub_n))))
theorem c_X1_chooseGreedily {l : Launch} {G : Gh} {m1 : Nat} (hm1 : isM m1) (a2 : Int32) (σ : Wd) : Con l G yX1_chooseGreedily cX1_chooseGreedily 5 none 3 77 [.ref (G.A 4), .ref (G.A m1), .int a2] σ (f_X1_chooseGreedily m1 a2 σ) := Con.of (plainFor_of_name (by decide)) rfl (Nat.le_of_ble_eq_true rfl) (fun K hl hG hO hR => by subst hl; subst hG; exact b_X1_chooseGreedily hO hR hm1 a2 σ)
theorem cal_X1_chooseGreedily : CalV yX1_chooseGreedily cX1_chooseGreedily 5 none 2 := ⟨a_77, a_78, a_79, a_48, by decide, by decide, by decide +kernel⟩
theorem k_X1_chooseGreedily {K : Kt} {nL : Nat} {cs : Nat × Nat} {σ : Wd} {pc : Nat} {lv : List (Nat × Value)} {st : List Value} {cc : ByteArray} {own : String} {rm : Room} {index : Nat} {g : Int32 → Wd → Option (Int32 × Wd)} {m1 : Nat} {a2 : Int32} (hO : Ok K cc own nL rm) (hm1 : isM m1) (hl : Cond.methodLink own index yX1_chooseGreedily ∈ gtb) (hcat : Nat.ble ((st.map fun v => v.category).sum) 8 = true) (hR : RoomOk rm cs 3 77 5) (d : decode cc pc = .ok (.invokevirtual index, 3)) (kk : ∀ (r : Int32) (σ : Wd), Cm K nL cs (g r σ) σ (pc + 3) lv st) : Cm K nL cs (bd (f_X1_chooseGreedily m1 a2 σ) g) σ pc lv (.int a2 :: .ref (K.G.A m1) :: .ref (K.G.A 4) :: st) := r_cVv hO (c_X1_chooseGreedily hm1 a2 σ) cal_X1_chooseGreedily hl rfl (by decide) ent_X1 rfl rfl hcat hR d kk
/-! OrderSplit_Chooser.venuesUsed -/
def f_X1_venuesUsed_27 (m1 : Nat) (k4 : Int32 → Int32 → Wd → Option (Int32 × Wd)) (x2 : Int32) (x3 : Int32) (σ : Wd) : Option (Int32 × Wd) := (k4 x2 (x3 + (1 : Int32)) σ)
def f_X1_venuesUsed_4 (m1 : Nat)  : Nat → Int32 → Int32 → Wd → Option (Int32 × Wd)
  | 0 => fun _ _ _ => none
  | n + 1 => fun x2 x3 σ => if (σ.1 m1 3) ≤ x3 then (some (x2, σ)) else (gd (inb x3 5) (if (σ.1 5 (ix x3)) ≤ 0 then (f_X1_venuesUsed_27 m1 (f_X1_venuesUsed_4 m1 n) x2 x3 σ) else (f_X1_venuesUsed_27 m1 (f_X1_venuesUsed_4 m1 n) (x2 ||| ((1 : Int32) <<< (x3 &&& 31))) x3 σ)))
def f_X1_venuesUsed (m1 : Nat) (σ : Wd) : Option (Int32 × Wd) := (f_X1_venuesUsed_4 m1 FU (0 : Int32) (0 : Int32) σ)
set_option maxRecDepth 20000 in
set_option maxHeartbeats 1000000 in
theorem b_X1_venuesUsed_27 {K : Kt} {m1 : Nat} {k4 : Int32 → Int32 → Wd → Option (Int32 × Wd)} (hO : Ok K cX1_venuesUsed RX1 4 rm_X1_venuesUsed) (hR : Rt K (some .int)) (hm1 : isM m1)  (hk4 : ∀ (x2 : Int32) (x3 : Int32) (σ : Wd), Cm K 4 (0, 0) (k4 x2 x3 σ) σ 4 [(0, .ref (K.G.A 4)), (1, .ref (K.G.A m1)), (2, .int x2), (3, .int x3)] []) (x2 : Int32) (x3 : Int32) (σ : Wd)  : Cm K 4 (0, 0) (f_X1_venuesUsed_27 m1 k4 x2 x3 σ) σ 27 [(0, .ref (K.G.A 4)), (1, .ref (K.G.A m1)), (2, .int x2), (3, .int x3)] [] := by
  refine r_iinc hO rfl ci_1 rfl rfl dX1_venuesUsed_27 ?_
  refine r_goto (tgt := 4) hO dX1_venuesUsed_30 (by decide) ?_
  exact r_jmp (hk4 x2 (x3 + (1 : Int32)) σ) (lsub_c rfl (lsub_c rfl (lsub_c rfl (lsub_c rfl lsub_n))))
set_option maxRecDepth 20000 in
set_option maxHeartbeats 1000000 in
theorem b_X1_venuesUsed_4 {K : Kt} {m1 : Nat}  (hO : Ok K cX1_venuesUsed RX1 4 rm_X1_venuesUsed) (hR : Rt K (some .int)) (hm1 : isM m1)  : ∀ (n : Nat) (x2 : Int32) (x3 : Int32) (σ : Wd) , Cm K 4 (0, 0) (f_X1_venuesUsed_4 m1 n x2 x3 σ) σ 4 [(0, .ref (K.G.A 4)), (1, .ref (K.G.A m1)), (2, .int x2), (3, .int x3)] [] := by
  intro n
  induction n with
  | zero => intro x2 x3 σ ; exact r_none
  | succ n ih =>
    intro x2 x3 σ 
    refine r_iload_n (i := 3) hO rfl rfl dX1_venuesUsed_4 ?_
    refine r_aload_n (i := 1) hO rfl rfl dX1_venuesUsed_5 ?_
    refine gX1_38 hO hm1 dX1_venuesUsed_6 ?_
    refine r_icmp_ge (tgt := 33) hO dX1_venuesUsed_9 (by decide) ?_ ?_
    · refine r_iload_n (i := 2) hO rfl rfl dX1_venuesUsed_33 ?_
      exact r_iret hO hR dX1_venuesUsed_34
    · refine r_aload_n (i := 0) hO rfl rfl dX1_venuesUsed_12 ?_
      refine gX1_18 hO dX1_venuesUsed_13 ?_
      refine r_iload_n (i := 3) hO rfl rfl dX1_venuesUsed_16 ?_
      refine r_iald hO s_5 dX1_venuesUsed_17 ?_
      refine r_if_le (tgt := 27) hO dX1_venuesUsed_18 (by decide) ?_ ?_
      · exact r_jmp (b_X1_venuesUsed_27 hO hR hm1 ih x2 x3 σ) (lsub_c rfl (lsub_c rfl (lsub_c rfl (lsub_c rfl lsub_n))))
      · refine r_iload_n (i := 2) hO rfl rfl dX1_venuesUsed_21 ?_
        refine r_iconst hO ci_1 dX1_venuesUsed_22 ?_
        refine r_iload_n (i := 3) hO rfl rfl dX1_venuesUsed_23 ?_
        refine r_ishl hO dX1_venuesUsed_24 ?_
        refine r_ior hO dX1_venuesUsed_25 ?_
        refine r_istore_n (i := 2) hO rfl rfl rfl dX1_venuesUsed_26 ?_
        exact r_jmp (b_X1_venuesUsed_27 hO hR hm1 ih (x2 ||| ((1 : Int32) <<< (x3 &&& 31))) x3 σ) (lsub_c rfl (lsub_c rfl (lsub_c rfl (lsub_c rfl lsub_n))))
set_option maxRecDepth 20000 in
set_option maxHeartbeats 1000000 in
theorem b_X1_venuesUsed {K : Kt} {m1 : Nat} (hO : Ok K cX1_venuesUsed RX1 4 rm_X1_venuesUsed) (hR : Rt K (some .int)) (hm1 : isM m1)  (σ : Wd) : Cm K 4 (0, 0) (f_X1_venuesUsed m1 σ) σ 0 [(0, .ref (K.G.A 4)), (1, .ref (K.G.A m1))] [] := by
  refine r_iconst hO ci_0 dX1_venuesUsed_0 ?_
  refine r_istore_n (i := 2) hO rfl rfl rfl dX1_venuesUsed_1 ?_
  refine r_iconst hO ci_0 dX1_venuesUsed_2 ?_
  refine r_istore_n (i := 3) hO rfl rfl rfl dX1_venuesUsed_3 ?_
  exact r_jmp (b_X1_venuesUsed_4 hO hR hm1 FU (0 : Int32) (0 : Int32) σ) (lsub_c rfl (lsub_c rfl (lsub_c rfl (lsub_c rfl lsub_n))))
theorem c_X1_venuesUsed {l : Launch} {G : Gh} {m1 : Nat} (hm1 : isM m1)  (σ : Wd) : Con l G yX1_venuesUsed cX1_venuesUsed 4 (some .int) 0 0 [.ref (G.A 4), .ref (G.A m1)] σ (f_X1_venuesUsed m1 σ) := Con.of (plainFor_of_name (by decide)) rfl (Nat.le_of_ble_eq_true rfl) (fun K hl hG hO hR => by subst hl; subst hG; exact b_X1_venuesUsed hO hR hm1  σ)
theorem cal_X1_venuesUsed : CalV yX1_venuesUsed cX1_venuesUsed 4 (some .int) 1 := ⟨a_80, a_81, a_82, a_48, by decide, by decide, by decide +kernel⟩
theorem k_X1_venuesUsed {K : Kt} {nL : Nat} {cs : Nat × Nat} {σ : Wd} {pc : Nat} {lv : List (Nat × Value)} {st : List Value} {cc : ByteArray} {own : String} {rm : Room} {index : Nat} {g : Int32 → Wd → Option (Int32 × Wd)} {m1 : Nat} (hO : Ok K cc own nL rm) (hm1 : isM m1) (hl : Cond.methodLink own index yX1_venuesUsed ∈ gtb) (hcat : Nat.ble ((st.map fun v => v.category).sum) 8 = true) (hR : RoomOk rm cs 0 0 4) (d : decode cc pc = .ok (.invokevirtual index, 3)) (kk : ∀ (r : Int32) (σ : Wd), Cm K nL cs (g r σ) σ (pc + 3) lv (.int r :: st)) : Cm K nL cs (bd (f_X1_venuesUsed m1 σ) g) σ pc lv (.ref (K.G.A m1) :: .ref (K.G.A 4) :: st) := r_cVi hO (c_X1_venuesUsed hm1  σ) cal_X1_venuesUsed hl rfl (by decide) ent_X1 rfl rfl hcat hR d kk
/-! OrderSplit_Chooser.fewestVenues -/
def f_X1_fewestVenues_22 (m1 : Nat) (k2 : Int32 → Int32 → Wd → Option (Int32 × Wd)) (x2 : Int32) (x3 : Int32) (s1 : Int32) (s2 : Int32) (σ : Wd) : Option (Int32 × Wd) := gd (inb s1 121) (nmW (wi σ 9 (ix s1) s2) fun σ1 => (k2 x2 (x3 + (1 : Int32)) σ1))
def f_X1_fewestVenues_121 (m1 : Nat) (k31 : Int32 → Int32 → Wd → Option (Int32 × Wd)) (k57 : Int32 → Int32 → Int32 → Int32 → Int32 → Wd → Option (Int32 × Wd)) (k66 : Int32 → Int32 → Int32 → Int32 → Int32 → Int32 → Wd → Option (Int32 × Wd)) (x2 : Int32) (x3 : Int32) (x4 : Int32) (x5 : Int32) (x6 : Int32) (x7 : Int32) (σ : Wd) : Option (Int32 × Wd) := (k66 x2 x3 x4 x5 x6 (x7 + x4) σ)
def f_X1_fewestVenues_131 (m1 : Nat) (k31 : Int32 → Int32 → Wd → Option (Int32 × Wd)) (k57 : Int32 → Int32 → Int32 → Int32 → Int32 → Wd → Option (Int32 × Wd)) (x2 : Int32) (x3 : Int32) (x4 : Int32) (x5 : Int32) (x6 : Int32) (σ : Wd) : Option (Int32 × Wd) := (k57 x2 x3 x4 x5 (x6 + (-1 : Int32)) σ)
def f_X1_fewestVenues_66 (m1 : Nat) (k31 : Int32 → Int32 → Wd → Option (Int32 × Wd)) (k57 : Int32 → Int32 → Int32 → Int32 → Int32 → Wd → Option (Int32 × Wd)) : Nat → Int32 → Int32 → Int32 → Int32 → Int32 → Int32 → Wd → Option (Int32 × Wd)
  | 0 => fun _ _ _ _ _ _ _ => none
  | n + 1 => fun x2 x3 x4 x5 x6 x7 σ => if x5 < x7 then (f_X1_fewestVenues_131 m1 k31 k57 x2 x3 x4 x5 x6 σ) else (if x6 < x7 then (f_X1_fewestVenues_131 m1 k31 k57 x2 x3 x4 x5 x6 σ) else (gd (inb (x6 - x7) 121) (gd (inb x6 121) (if (σ.1 9 (ix x6)) ≤ ((σ.1 9 (ix (x6 - x7))) + (1 : Int32)) then (f_X1_fewestVenues_121 m1 k31 k57 (f_X1_fewestVenues_66 m1 k31 k57 n) x2 x3 x4 x5 x6 x7 σ) else (gd (inb (x6 - x7) 121) (gd (inb x6 121) (nmW (wi σ 9 (ix x6) ((σ.1 9 (ix (x6 - x7))) + (1 : Int32))) fun σ1 => (f_X1_fewestVenues_121 m1 k31 k57 (f_X1_fewestVenues_66 m1 k31 k57 n) x2 x3 x4 x5 x6 x7 σ1))))))))
def f_X1_fewestVenues_57 (m1 : Nat) (k31 : Int32 → Int32 → Wd → Option (Int32 × Wd)) : Nat → Int32 → Int32 → Int32 → Int32 → Int32 → Wd → Option (Int32 × Wd)
  | 0 => fun _ _ _ _ _ _ => none
  | n + 1 => fun x2 x3 x4 x5 x6 σ => if x6 ≤ 0 then (k31 x2 (x3 + (1 : Int32)) σ) else (f_X1_fewestVenues_66 m1 k31 (f_X1_fewestVenues_57 m1 k31 n) FU x2 x3 x4 x5 x6 x4 σ)
def f_X1_fewestVenues_31 (m1 : Nat)  : Nat → Int32 → Int32 → Wd → Option (Int32 × Wd)
  | 0 => fun _ _ _ => none
  | n + 1 => fun x2 x3 σ => if (σ.1 m1 3) ≤ x3 then (bd (f_X1_mostUnits 9 121 x2 σ) fun r1 σ2 => gd (inb r1 121) (some (σ2.1 9 (ix r1), σ2))) else (bd (f_X3_lotOf m1 x3 σ) fun r3 σ4 => bd (f_X3_wholeLots m1 x3 x2 σ4) fun r5 σ6 => (f_X1_fewestVenues_57 m1 (f_X1_fewestVenues_31 m1 n) FU x2 x3 r3 r5 x2 σ6))
def f_X1_fewestVenues_2 (m1 : Nat)  : Nat → Int32 → Int32 → Wd → Option (Int32 × Wd)
  | 0 => fun _ _ _ => none
  | n + 1 => fun x2 x3 σ => if x2 < x3 then (f_X1_fewestVenues_31 m1 FU x2 (0 : Int32) σ) else (if x3 = 0 then (f_X1_fewestVenues_22 m1 (f_X1_fewestVenues_2 m1 n) x2 x3 x3 (0 : Int32) σ) else (f_X1_fewestVenues_22 m1 (f_X1_fewestVenues_2 m1 n) x2 x3 x3 (1000000000 : Int32) σ))
def f_X1_fewestVenues (m1 : Nat) (a2 : Int32) (σ : Wd) : Option (Int32 × Wd) := (f_X1_fewestVenues_2 m1 FU a2 (0 : Int32) σ)
set_option maxRecDepth 20000 in
set_option maxHeartbeats 1000000 in
theorem b_X1_fewestVenues_22 {K : Kt} {m1 : Nat} {k2 : Int32 → Int32 → Wd → Option (Int32 × Wd)} (hO : Ok K cX1_fewestVenues RX1 8 rm_X1_fewestVenues) (hR : Rt K (some .int)) (hm1 : isM m1)  (hk2 : ∀ (x2 : Int32) (x3 : Int32) (σ : Wd), Cm K 8 (0, 0) (k2 x2 x3 σ) σ 2 [(0, .ref (K.G.A 4)), (1, .ref (K.G.A m1)), (2, .int x2), (3, .int x3)] []) (x2 : Int32) (x3 : Int32) (s1 : Int32) (s2 : Int32) (σ : Wd)  : Cm K 8 (0, 0) (f_X1_fewestVenues_22 m1 k2 x2 x3 s1 s2 σ) σ 22 [(0, .ref (K.G.A 4)), (1, .ref (K.G.A m1)), (2, .int x2), (3, .int x3)] [.int s2, .int s1, .ref (K.G.A 9)] := by
  refine r_iast hO s_9 dX1_fewestVenues_22 ?_
  refine r_nmW fun σ1 => ?_
  refine r_iinc hO rfl ci_1 rfl rfl dX1_fewestVenues_23 ?_
  refine r_goto (tgt := 2) hO dX1_fewestVenues_26 (by decide) ?_
  exact r_jmp (hk2 x2 (x3 + (1 : Int32)) σ1) (lsub_c rfl (lsub_c rfl (lsub_c rfl (lsub_c rfl lsub_n))))
set_option maxRecDepth 20000 in
set_option maxHeartbeats 1000000 in
theorem b_X1_fewestVenues_121 {K : Kt} {m1 : Nat} {k31 : Int32 → Int32 → Wd → Option (Int32 × Wd)} {k57 : Int32 → Int32 → Int32 → Int32 → Int32 → Wd → Option (Int32 × Wd)} {k66 : Int32 → Int32 → Int32 → Int32 → Int32 → Int32 → Wd → Option (Int32 × Wd)} (hO : Ok K cX1_fewestVenues RX1 8 rm_X1_fewestVenues) (hR : Rt K (some .int)) (hm1 : isM m1)  (hk31 : ∀ (x2 : Int32) (x3 : Int32) (σ : Wd), Cm K 8 (0, 0) (k31 x2 x3 σ) σ 31 [(0, .ref (K.G.A 4)), (1, .ref (K.G.A m1)), (2, .int x2), (3, .int x3)] []) (hk57 : ∀ (x2 : Int32) (x3 : Int32) (x4 : Int32) (x5 : Int32) (x6 : Int32) (σ : Wd), Cm K 8 (0, 0) (k57 x2 x3 x4 x5 x6 σ) σ 57 [(0, .ref (K.G.A 4)), (1, .ref (K.G.A m1)), (2, .int x2), (3, .int x3), (4, .int x4), (5, .int x5), (6, .int x6)] []) (hk66 : ∀ (x2 : Int32) (x3 : Int32) (x4 : Int32) (x5 : Int32) (x6 : Int32) (x7 : Int32) (σ : Wd), Cm K 8 (0, 0) (k66 x2 x3 x4 x5 x6 x7 σ) σ 66 [(0, .ref (K.G.A 4)), (1, .ref (K.G.A m1)), (2, .int x2), (3, .int x3), (4, .int x4), (5, .int x5), (6, .int x6), (7, .int x7)] []) (x2 : Int32) (x3 : Int32) (x4 : Int32) (x5 : Int32) (x6 : Int32) (x7 : Int32) (σ : Wd)  : Cm K 8 (0, 0) (f_X1_fewestVenues_121 m1 k31 k57 k66 x2 x3 x4 x5 x6 x7 σ) σ 121 [(0, .ref (K.G.A 4)), (1, .ref (K.G.A m1)), (2, .int x2), (3, .int x3), (4, .int x4), (5, .int x5), (6, .int x6), (7, .int x7)] [] := by
  refine r_iload hO (d := dX1_fewestVenues_121) rfl ?_
  refine r_iload hO (d := dX1_fewestVenues_123) rfl ?_
  refine r_iadd hO dX1_fewestVenues_125 ?_
  refine r_istore hO rfl rfl dX1_fewestVenues_126 ?_
  refine r_goto (tgt := 66) hO dX1_fewestVenues_128 (by decide) ?_
  exact r_jmp (hk66 x2 x3 x4 x5 x6 (x7 + x4) σ) (lsub_c rfl (lsub_c rfl (lsub_c rfl (lsub_c rfl (lsub_c rfl (lsub_c rfl (lsub_c rfl (lsub_c rfl lsub_n))))))))
set_option maxRecDepth 20000 in
set_option maxHeartbeats 1000000 in
theorem b_X1_fewestVenues_131 {K : Kt} {m1 : Nat} {k31 : Int32 → Int32 → Wd → Option (Int32 × Wd)} {k57 : Int32 → Int32 → Int32 → Int32 → Int32 → Wd → Option (Int32 × Wd)} (hO : Ok K cX1_fewestVenues RX1 8 rm_X1_fewestVenues) (hR : Rt K (some .int)) (hm1 : isM m1)  (hk31 : ∀ (x2 : Int32) (x3 : Int32) (σ : Wd), Cm K 8 (0, 0) (k31 x2 x3 σ) σ 31 [(0, .ref (K.G.A 4)), (1, .ref (K.G.A m1)), (2, .int x2), (3, .int x3)] []) (hk57 : ∀ (x2 : Int32) (x3 : Int32) (x4 : Int32) (x5 : Int32) (x6 : Int32) (σ : Wd), Cm K 8 (0, 0) (k57 x2 x3 x4 x5 x6 σ) σ 57 [(0, .ref (K.G.A 4)), (1, .ref (K.G.A m1)), (2, .int x2), (3, .int x3), (4, .int x4), (5, .int x5), (6, .int x6)] []) (x2 : Int32) (x3 : Int32) (x4 : Int32) (x5 : Int32) (x6 : Int32) (σ : Wd)  : Cm K 8 (0, 0) (f_X1_fewestVenues_131 m1 k31 k57 x2 x3 x4 x5 x6 σ) σ 131 [(0, .ref (K.G.A 4)), (1, .ref (K.G.A m1)), (2, .int x2), (3, .int x3), (4, .int x4), (5, .int x5), (6, .int x6)] [] := by
  refine r_iinc hO rfl ci_m1 rfl rfl dX1_fewestVenues_131 ?_
  refine r_goto (tgt := 57) hO dX1_fewestVenues_134 (by decide) ?_
  exact r_jmp (hk57 x2 x3 x4 x5 (x6 + (-1 : Int32)) σ) (lsub_c rfl (lsub_c rfl (lsub_c rfl (lsub_c rfl (lsub_c rfl (lsub_c rfl (lsub_c rfl lsub_n)))))))
set_option maxRecDepth 20000 in
set_option maxHeartbeats 1000000 in
theorem b_X1_fewestVenues_66 {K : Kt} {m1 : Nat} {k31 : Int32 → Int32 → Wd → Option (Int32 × Wd)} {k57 : Int32 → Int32 → Int32 → Int32 → Int32 → Wd → Option (Int32 × Wd)} (hO : Ok K cX1_fewestVenues RX1 8 rm_X1_fewestVenues) (hR : Rt K (some .int)) (hm1 : isM m1)  (hk31 : ∀ (x2 : Int32) (x3 : Int32) (σ : Wd), Cm K 8 (0, 0) (k31 x2 x3 σ) σ 31 [(0, .ref (K.G.A 4)), (1, .ref (K.G.A m1)), (2, .int x2), (3, .int x3)] []) (hk57 : ∀ (x2 : Int32) (x3 : Int32) (x4 : Int32) (x5 : Int32) (x6 : Int32) (σ : Wd), Cm K 8 (0, 0) (k57 x2 x3 x4 x5 x6 σ) σ 57 [(0, .ref (K.G.A 4)), (1, .ref (K.G.A m1)), (2, .int x2), (3, .int x3), (4, .int x4), (5, .int x5), (6, .int x6)] []) : ∀ (n : Nat) (x2 : Int32) (x3 : Int32) (x4 : Int32) (x5 : Int32) (x6 : Int32) (x7 : Int32) (σ : Wd) , Cm K 8 (0, 0) (f_X1_fewestVenues_66 m1 k31 k57 n x2 x3 x4 x5 x6 x7 σ) σ 66 [(0, .ref (K.G.A 4)), (1, .ref (K.G.A m1)), (2, .int x2), (3, .int x3), (4, .int x4), (5, .int x5), (6, .int x6), (7, .int x7)] [] := by
  intro n
  induction n with
  | zero => intro x2 x3 x4 x5 x6 x7 σ ; exact r_none
  | succ n ih =>
    intro x2 x3 x4 x5 x6 x7 σ 
    refine r_iload hO (d := dX1_fewestVenues_66) rfl ?_
    refine r_iload hO (d := dX1_fewestVenues_68) rfl ?_
    refine r_icmp_gt (tgt := 131) hO dX1_fewestVenues_70 (by decide) ?_ ?_
    · exact r_jmp (b_X1_fewestVenues_131 hO hR hm1 hk31 hk57 x2 x3 x4 x5 x6 σ) (lsub_c rfl (lsub_c rfl (lsub_c rfl (lsub_c rfl (lsub_c rfl (lsub_c rfl (lsub_c rfl lsub_n)))))))
    · refine r_iload hO (d := dX1_fewestVenues_73) rfl ?_
      refine r_iload hO (d := dX1_fewestVenues_75) rfl ?_
      refine r_icmp_gt (tgt := 131) hO dX1_fewestVenues_77 (by decide) ?_ ?_
      · exact r_jmp (b_X1_fewestVenues_131 hO hR hm1 hk31 hk57 x2 x3 x4 x5 x6 σ) (lsub_c rfl (lsub_c rfl (lsub_c rfl (lsub_c rfl (lsub_c rfl (lsub_c rfl (lsub_c rfl lsub_n)))))))
      · refine r_aload_n (i := 0) hO rfl rfl dX1_fewestVenues_80 ?_
        refine gX1_31 hO dX1_fewestVenues_81 ?_
        refine r_iload hO (d := dX1_fewestVenues_84) rfl ?_
        refine r_iload hO (d := dX1_fewestVenues_86) rfl ?_
        refine r_isub hO dX1_fewestVenues_88 ?_
        refine r_iald hO s_9 dX1_fewestVenues_89 ?_
        refine r_iconst hO ci_1 dX1_fewestVenues_90 ?_
        refine r_iadd hO dX1_fewestVenues_91 ?_
        refine r_aload_n (i := 0) hO rfl rfl dX1_fewestVenues_92 ?_
        refine gX1_31 hO dX1_fewestVenues_93 ?_
        refine r_iload hO (d := dX1_fewestVenues_96) rfl ?_
        refine r_iald hO s_9 dX1_fewestVenues_98 ?_
        refine r_icmp_ge (tgt := 121) hO dX1_fewestVenues_99 (by decide) ?_ ?_
        · exact r_jmp (b_X1_fewestVenues_121 hO hR hm1 hk31 hk57 ih x2 x3 x4 x5 x6 x7 σ) (lsub_c rfl (lsub_c rfl (lsub_c rfl (lsub_c rfl (lsub_c rfl (lsub_c rfl (lsub_c rfl (lsub_c rfl lsub_n))))))))
        · refine r_aload_n (i := 0) hO rfl rfl dX1_fewestVenues_102 ?_
          refine gX1_31 hO dX1_fewestVenues_103 ?_
          refine r_iload hO (d := dX1_fewestVenues_106) rfl ?_
          refine r_aload_n (i := 0) hO rfl rfl dX1_fewestVenues_108 ?_
          refine gX1_31 hO dX1_fewestVenues_109 ?_
          refine r_iload hO (d := dX1_fewestVenues_112) rfl ?_
          refine r_iload hO (d := dX1_fewestVenues_114) rfl ?_
          refine r_isub hO dX1_fewestVenues_116 ?_
          refine r_iald hO s_9 dX1_fewestVenues_117 ?_
          refine r_iconst hO ci_1 dX1_fewestVenues_118 ?_
          refine r_iadd hO dX1_fewestVenues_119 ?_
          refine r_iast hO s_9 dX1_fewestVenues_120 ?_
          refine r_nmW fun σ1 => ?_
          exact r_jmp (b_X1_fewestVenues_121 hO hR hm1 hk31 hk57 ih x2 x3 x4 x5 x6 x7 σ1) (lsub_c rfl (lsub_c rfl (lsub_c rfl (lsub_c rfl (lsub_c rfl (lsub_c rfl (lsub_c rfl (lsub_c rfl lsub_n))))))))
set_option maxRecDepth 20000 in
set_option maxHeartbeats 1000000 in
theorem b_X1_fewestVenues_57 {K : Kt} {m1 : Nat} {k31 : Int32 → Int32 → Wd → Option (Int32 × Wd)} (hO : Ok K cX1_fewestVenues RX1 8 rm_X1_fewestVenues) (hR : Rt K (some .int)) (hm1 : isM m1)  (hk31 : ∀ (x2 : Int32) (x3 : Int32) (σ : Wd), Cm K 8 (0, 0) (k31 x2 x3 σ) σ 31 [(0, .ref (K.G.A 4)), (1, .ref (K.G.A m1)), (2, .int x2), (3, .int x3)] []) : ∀ (n : Nat) (x2 : Int32) (x3 : Int32) (x4 : Int32) (x5 : Int32) (x6 : Int32) (σ : Wd) , Cm K 8 (0, 0) (f_X1_fewestVenues_57 m1 k31 n x2 x3 x4 x5 x6 σ) σ 57 [(0, .ref (K.G.A 4)), (1, .ref (K.G.A m1)), (2, .int x2), (3, .int x3), (4, .int x4), (5, .int x5), (6, .int x6)] [] := by
  intro n
  induction n with
  | zero => intro x2 x3 x4 x5 x6 σ ; exact r_none
  | succ n ih =>
    intro x2 x3 x4 x5 x6 σ 
    refine r_iload hO (d := dX1_fewestVenues_57) rfl ?_
    refine r_if_le (tgt := 137) hO dX1_fewestVenues_59 (by decide) ?_ ?_
    · refine r_iinc hO rfl ci_1 rfl rfl dX1_fewestVenues_137 ?_
      refine r_goto (tgt := 31) hO dX1_fewestVenues_140 (by decide) ?_
      exact r_jmp (hk31 x2 (x3 + (1 : Int32)) σ) (lsub_c rfl (lsub_c rfl (lsub_c rfl (lsub_c rfl lsub_n))))
    · refine r_iload hO (d := dX1_fewestVenues_62) rfl ?_
      refine r_istore hO rfl rfl dX1_fewestVenues_64 ?_
      exact r_jmp (b_X1_fewestVenues_66 hO hR hm1 hk31 ih FU x2 x3 x4 x5 x6 x4 σ) (lsub_c rfl (lsub_c rfl (lsub_c rfl (lsub_c rfl (lsub_c rfl (lsub_c rfl (lsub_c rfl (lsub_c rfl lsub_n))))))))
set_option maxRecDepth 20000 in
set_option maxHeartbeats 1000000 in
theorem b_X1_fewestVenues_31 {K : Kt} {m1 : Nat}  (hO : Ok K cX1_fewestVenues RX1 8 rm_X1_fewestVenues) (hR : Rt K (some .int)) (hm1 : isM m1)  : ∀ (n : Nat) (x2 : Int32) (x3 : Int32) (σ : Wd) , Cm K 8 (0, 0) (f_X1_fewestVenues_31 m1 n x2 x3 σ) σ 31 [(0, .ref (K.G.A 4)), (1, .ref (K.G.A m1)), (2, .int x2), (3, .int x3)] [] := by
  intro n
  induction n with
  | zero => intro x2 x3 σ ; exact r_none
  | succ n ih =>
    intro x2 x3 σ 
    refine r_iload_n (i := 3) hO rfl rfl dX1_fewestVenues_31 ?_
    refine r_aload_n (i := 1) hO rfl rfl dX1_fewestVenues_32 ?_
    refine gX1_38 hO hm1 dX1_fewestVenues_33 ?_
    refine r_icmp_ge (tgt := 143) hO dX1_fewestVenues_36 (by decide) ?_ ?_
    · refine r_aload_n (i := 0) hO rfl rfl dX1_fewestVenues_143 ?_
      refine gX1_31 hO dX1_fewestVenues_144 ?_
      refine r_aload_n (i := 0) hO rfl rfl dX1_fewestVenues_147 ?_
      refine gX1_31 hO dX1_fewestVenues_148 ?_
      refine r_iload_n (i := 2) hO rfl rfl dX1_fewestVenues_151 ?_
      refine k_X1_mostUnits hO s_9 a_63 rfl ⟨rfl, rfl, Nat.le_refl _, Nat.le_refl _⟩ dX1_fewestVenues_152 ?_
      intro r1 σ2
      refine r_iald hO s_9 dX1_fewestVenues_155 ?_
      exact r_iret hO hR dX1_fewestVenues_156
    · refine r_aload_n (i := 1) hO rfl rfl dX1_fewestVenues_39 ?_
      refine r_iload_n (i := 3) hO rfl rfl dX1_fewestVenues_40 ?_
      refine k_X3_lotOf hO hm1 a_43 rfl ⟨rfl, rfl, Nat.le_refl _, Nat.le_refl _⟩ dX1_fewestVenues_41 ?_
      intro r3 σ4
      refine r_istore hO rfl rfl dX1_fewestVenues_44 ?_
      refine r_aload_n (i := 1) hO rfl rfl dX1_fewestVenues_46 ?_
      refine r_iload_n (i := 3) hO rfl rfl dX1_fewestVenues_47 ?_
      refine r_iload_n (i := 2) hO rfl rfl dX1_fewestVenues_48 ?_
      refine k_X3_wholeLots hO hm1 a_42 rfl ⟨rfl, rfl, Nat.le_refl _, Nat.le_refl _⟩ dX1_fewestVenues_49 ?_
      intro r5 σ6
      refine r_istore hO rfl rfl dX1_fewestVenues_52 ?_
      refine r_iload_n (i := 2) hO rfl rfl dX1_fewestVenues_54 ?_
      refine r_istore hO rfl rfl dX1_fewestVenues_55 ?_
      exact r_jmp (b_X1_fewestVenues_57 hO hR hm1 ih FU x2 x3 r3 r5 x2 σ6) (lsub_c rfl (lsub_c rfl (lsub_c rfl (lsub_c rfl (lsub_c rfl (lsub_c rfl (lsub_c rfl lsub_n)))))))
set_option maxRecDepth 20000 in
set_option maxHeartbeats 1000000 in
theorem b_X1_fewestVenues_2 {K : Kt} {m1 : Nat}  (hO : Ok K cX1_fewestVenues RX1 8 rm_X1_fewestVenues) (hR : Rt K (some .int)) (hm1 : isM m1)  : ∀ (n : Nat) (x2 : Int32) (x3 : Int32) (σ : Wd) , Cm K 8 (0, 0) (f_X1_fewestVenues_2 m1 n x2 x3 σ) σ 2 [(0, .ref (K.G.A 4)), (1, .ref (K.G.A m1)), (2, .int x2), (3, .int x3)] [] := by
  intro n
  induction n with
  | zero => intro x2 x3 σ ; exact r_none
  | succ n ih =>
    intro x2 x3 σ 
    refine r_iload_n (i := 3) hO rfl rfl dX1_fewestVenues_2 ?_
    refine r_iload_n (i := 2) hO rfl rfl dX1_fewestVenues_3 ?_
    refine r_icmp_gt (tgt := 29) hO dX1_fewestVenues_4 (by decide) ?_ ?_
    · refine r_iconst hO ci_0 dX1_fewestVenues_29 ?_
      refine r_istore_n (i := 3) hO rfl rfl rfl dX1_fewestVenues_30 ?_
      exact r_jmp (b_X1_fewestVenues_31 hO hR hm1 FU x2 (0 : Int32) σ) (lsub_c rfl (lsub_c rfl (lsub_c rfl (lsub_c rfl lsub_n))))
    · refine r_aload_n (i := 0) hO rfl rfl dX1_fewestVenues_7 ?_
      refine gX1_31 hO dX1_fewestVenues_8 ?_
      refine r_iload_n (i := 3) hO rfl rfl dX1_fewestVenues_11 ?_
      refine r_iload_n (i := 3) hO rfl rfl dX1_fewestVenues_12 ?_
      refine r_if_ne (tgt := 20) hO dX1_fewestVenues_13 (by decide) ?_ ?_
      · refine r_iconst hO ci_0 dX1_fewestVenues_16 ?_
        refine r_goto (tgt := 22) hO dX1_fewestVenues_17 (by decide) ?_
        exact r_jmp (b_X1_fewestVenues_22 hO hR hm1 ih x2 x3 x3 (0 : Int32) σ) (lsub_c rfl (lsub_c rfl (lsub_c rfl (lsub_c rfl lsub_n))))
      · refine r_ldc hO a_49 dX1_fewestVenues_20 ?_
        exact r_jmp (b_X1_fewestVenues_22 hO hR hm1 ih x2 x3 x3 (1000000000 : Int32) σ) (lsub_c rfl (lsub_c rfl (lsub_c rfl (lsub_c rfl lsub_n))))
set_option maxRecDepth 20000 in
set_option maxHeartbeats 1000000 in
theorem b_X1_fewestVenues {K : Kt} {m1 : Nat} (hO : Ok K cX1_fewestVenues RX1 8 rm_X1_fewestVenues) (hR : Rt K (some .int)) (hm1 : isM m1) (a2 : Int32) (σ : Wd) : Cm K 8 (0, 0) (f_X1_fewestVenues m1 a2 σ) σ 0 [(0, .ref (K.G.A 4)), (1, .ref (K.G.A m1)), (2, .int a2)] [] := by
  refine r_iconst hO ci_0 dX1_fewestVenues_0 ?_
  refine r_istore_n (i := 3) hO rfl rfl rfl dX1_fewestVenues_1 ?_
  exact r_jmp (b_X1_fewestVenues_2 hO hR hm1 FU a2 (0 : Int32) σ) (lsub_c rfl (lsub_c rfl (lsub_c rfl (lsub_c rfl lsub_n))))
theorem c_X1_fewestVenues {l : Launch} {G : Gh} {m1 : Nat} (hm1 : isM m1) (a2 : Int32) (σ : Wd) : Con l G yX1_fewestVenues cX1_fewestVenues 8 (some .int) 2 49 [.ref (G.A 4), .ref (G.A m1), .int a2] σ (f_X1_fewestVenues m1 a2 σ) := Con.of (plainFor_of_name (by decide)) rfl (Nat.le_of_ble_eq_true rfl) (fun K hl hG hO hR => by subst hl; subst hG; exact b_X1_fewestVenues hO hR hm1 a2 σ)
theorem cal_X1_fewestVenues : CalV yX1_fewestVenues cX1_fewestVenues 8 (some .int) 2 := ⟨a_83, a_84, a_85, a_48, by decide, by decide, by decide +kernel⟩
theorem k_X1_fewestVenues {K : Kt} {nL : Nat} {cs : Nat × Nat} {σ : Wd} {pc : Nat} {lv : List (Nat × Value)} {st : List Value} {cc : ByteArray} {own : String} {rm : Room} {index : Nat} {g : Int32 → Wd → Option (Int32 × Wd)} {m1 : Nat} {a2 : Int32} (hO : Ok K cc own nL rm) (hm1 : isM m1) (hl : Cond.methodLink own index yX1_fewestVenues ∈ gtb) (hcat : Nat.ble ((st.map fun v => v.category).sum) 8 = true) (hR : RoomOk rm cs 2 49 8) (d : decode cc pc = .ok (.invokevirtual index, 3)) (kk : ∀ (r : Int32) (σ : Wd), Cm K nL cs (g r σ) σ (pc + 3) lv (.int r :: st)) : Cm K nL cs (bd (f_X1_fewestVenues m1 a2 σ) g) σ pc lv (.int a2 :: .ref (K.G.A m1) :: .ref (K.G.A 4) :: st) := r_cVi hO (c_X1_fewestVenues hm1 a2 σ) cal_X1_fewestVenues hl rfl (by decide) ent_X1 rfl rfl hcat hR d kk
/-! OrderSplit_Ledger.copyFrom -/
def f_X2_copyFrom (b : Nat) (g1 : Nat) (σ : Wd) : Option (Int32 × Wd) := nmW (wi σ b 0 (σ.1 g1 0)) fun σ1 => nmW (wc σ1 (b + 1) (va_cpy (σ1.1 (g1 + 1)) (σ1.1 (b + 1)) 0 0 30)) fun σ2 => nmW (wc σ2 (b + 2) (va_cpy (σ2.1 (g1 + 2)) (σ2.1 (b + 2)) 0 0 30)) fun σ3 => nmW (wc σ3 (b + 3) (va_cpy (σ3.1 (g1 + 3)) (σ3.1 (b + 3)) 0 0 30)) fun σ4 => some (0, σ4)
set_option maxRecDepth 20000 in
set_option maxHeartbeats 1000000 in
theorem b_X2_copyFrom {K : Kt} {b : Nat} {g1 : Nat} (hO : Ok K cX2_copyFrom RX2 2 rm_X2_copyFrom) (hR : Rt K none) (hb : isL b) (hg1 : isL g1)  (σ : Wd) : Cm K 2 (0, 0) (f_X2_copyFrom b g1 σ) σ 0 [(0, .ref (K.G.A b)), (1, .ref (K.G.A g1))] [] := by
  refine r_aload_n (i := 0) hO rfl rfl dX2_copyFrom_0 ?_
  refine r_aload_n (i := 1) hO rfl rfl dX2_copyFrom_1 ?_
  refine gX2_9 hO hg1 dX2_copyFrom_2 ?_
  refine pX2_9 hO hb dX2_copyFrom_5 ?_
  refine r_nmW fun σ1 => ?_
  refine r_aload_n (i := 1) hO rfl rfl dX2_copyFrom_8 ?_
  refine gX2_15 hO hg1 dX2_copyFrom_9 ?_
  refine r_iconst hO ci_0 dX2_copyFrom_12 ?_
  refine r_aload_n (i := 0) hO rfl rfl dX2_copyFrom_13 ?_
  refine gX2_15 hO hb dX2_copyFrom_14 ?_
  refine r_iconst hO ci_0 dX2_copyFrom_17 ?_
  refine r_bipush hO bi_30 dX2_copyFrom_18 ?_
  refine r_copy hO (sL_1 hg1) (sL_1 hb) a_86 a_87 a_88 a_89 rfl rfl (by decide) (by decide) (by decide) (by decide) dX2_copyFrom_20 ?_
  refine r_nmW fun σ2 => ?_
  refine r_aload_n (i := 1) hO rfl rfl dX2_copyFrom_23 ?_
  refine gX2_19 hO hg1 dX2_copyFrom_24 ?_
  refine r_iconst hO ci_0 dX2_copyFrom_27 ?_
  refine r_aload_n (i := 0) hO rfl rfl dX2_copyFrom_28 ?_
  refine gX2_19 hO hb dX2_copyFrom_29 ?_
  refine r_iconst hO ci_0 dX2_copyFrom_32 ?_
  refine r_bipush hO bi_30 dX2_copyFrom_33 ?_
  refine r_copy hO (sL_2 hg1) (sL_2 hb) a_86 a_87 a_88 a_89 rfl rfl (by decide) (by decide) (by decide) (by decide) dX2_copyFrom_35 ?_
  refine r_nmW fun σ3 => ?_
  refine r_aload_n (i := 1) hO rfl rfl dX2_copyFrom_38 ?_
  refine gX2_22 hO hg1 dX2_copyFrom_39 ?_
  refine r_iconst hO ci_0 dX2_copyFrom_42 ?_
  refine r_aload_n (i := 0) hO rfl rfl dX2_copyFrom_43 ?_
  refine gX2_22 hO hb dX2_copyFrom_44 ?_
  refine r_iconst hO ci_0 dX2_copyFrom_47 ?_
  refine r_bipush hO bi_30 dX2_copyFrom_48 ?_
  refine r_copy hO (sL_3 hg1) (sL_3 hb) a_86 a_87 a_88 a_89 rfl rfl (by decide) (by decide) (by decide) (by decide) dX2_copyFrom_50 ?_
  refine r_nmW fun σ4 => ?_
  exact r_vret hO hR dX2_copyFrom_53
theorem c_X2_copyFrom {l : Launch} {G : Gh} {b : Nat} {g1 : Nat} (hb : isL b) (hg1 : isL g1)  (σ : Wd) : Con l G yX2_copyFrom cX2_copyFrom 2 none 1 26 [.ref (G.A b), .ref (G.A g1)] σ (f_X2_copyFrom b g1 σ) := Con.of (plainFor_of_name (by decide)) rfl (Nat.le_of_ble_eq_true rfl) (fun K hl hG hO hR => by subst hl; subst hG; exact b_X2_copyFrom hO hR hb hg1  σ)
theorem cal_X2_copyFrom : CalV yX2_copyFrom cX2_copyFrom 2 none 1 := ⟨a_90, a_91, a_92, a_93, by decide, by decide, by decide +kernel⟩
theorem k_X2_copyFrom {K : Kt} {nL : Nat} {cs : Nat × Nat} {σ : Wd} {pc : Nat} {lv : List (Nat × Value)} {st : List Value} {cc : ByteArray} {own : String} {rm : Room} {index : Nat} {g : Int32 → Wd → Option (Int32 × Wd)} {b : Nat} {g1 : Nat} (hO : Ok K cc own nL rm) (hb : isL b) (hg1 : isL g1) (hl : Cond.methodLink own index yX2_copyFrom ∈ gtb) (hcat : Nat.ble ((st.map fun v => v.category).sum) 8 = true) (hR : RoomOk rm cs 1 26 2) (d : decode cc pc = .ok (.invokevirtual index, 3)) (kk : ∀ (r : Int32) (σ : Wd), Cm K nL cs (g r σ) σ (pc + 3) lv st) : Cm K nL cs (bd (f_X2_copyFrom b g1 σ) g) σ pc lv (.ref (K.G.A g1) :: .ref (K.G.A b) :: st) := r_cVv hO (c_X2_copyFrom hb hg1  σ) cal_X2_copyFrom hl rfl (isL_lt hb) (ent_X2 hb) rfl rfl hcat hR d kk
/-! OrderSplit_Ledger.find -/
def f_X2_find_32 (b : Nat) (k2 : Int32 → Int32 → Int32 → Wd → Option (Int32 × Wd)) (x1 : Int32) (x2 : Int32) (x3 : Int32) (σ : Wd) : Option (Int32 × Wd) := (k2 x1 x2 (x3 + (1 : Int32)) σ)
def f_X2_find_2 (b : Nat)  : Nat → Int32 → Int32 → Int32 → Wd → Option (Int32 × Wd)
  | 0 => fun _ _ _ _ => none
  | n + 1 => fun x1 x2 x3 σ => if (σ.1 b 0) ≤ x3 then (some ((-1 : Int32), σ)) else (gd (inb x3 30) (if (σ.1 (b + 1) (ix x3)) = x1 then (gd (inb x3 30) (if (σ.1 (b + 2) (ix x3)) = x2 then (some (x3, σ)) else (f_X2_find_32 b (f_X2_find_2 b n) x1 x2 x3 σ))) else (f_X2_find_32 b (f_X2_find_2 b n) x1 x2 x3 σ)))
def f_X2_find (b : Nat) (a1 : Int32) (a2 : Int32) (σ : Wd) : Option (Int32 × Wd) := (f_X2_find_2 b FU a1 a2 (0 : Int32) σ)
set_option maxRecDepth 20000 in
set_option maxHeartbeats 1000000 in
theorem b_X2_find_32 {K : Kt} {b : Nat} {k2 : Int32 → Int32 → Int32 → Wd → Option (Int32 × Wd)} (hO : Ok K cX2_find RX2 4 rm_X2_find) (hR : Rt K (some .int)) (hb : isL b)  (hk2 : ∀ (x1 : Int32) (x2 : Int32) (x3 : Int32) (σ : Wd), Cm K 4 (0, 0) (k2 x1 x2 x3 σ) σ 2 [(0, .ref (K.G.A b)), (1, .int x1), (2, .int x2), (3, .int x3)] []) (x1 : Int32) (x2 : Int32) (x3 : Int32) (σ : Wd)  : Cm K 4 (0, 0) (f_X2_find_32 b k2 x1 x2 x3 σ) σ 32 [(0, .ref (K.G.A b)), (1, .int x1), (2, .int x2), (3, .int x3)] [] := by
  refine r_iinc hO rfl ci_1 rfl rfl dX2_find_32 ?_
  refine r_goto (tgt := 2) hO dX2_find_35 (by decide) ?_
  exact r_jmp (hk2 x1 x2 (x3 + (1 : Int32)) σ) (lsub_c rfl (lsub_c rfl (lsub_c rfl (lsub_c rfl lsub_n))))
set_option maxRecDepth 20000 in
set_option maxHeartbeats 1000000 in
theorem b_X2_find_2 {K : Kt} {b : Nat}  (hO : Ok K cX2_find RX2 4 rm_X2_find) (hR : Rt K (some .int)) (hb : isL b)  : ∀ (n : Nat) (x1 : Int32) (x2 : Int32) (x3 : Int32) (σ : Wd) , Cm K 4 (0, 0) (f_X2_find_2 b n x1 x2 x3 σ) σ 2 [(0, .ref (K.G.A b)), (1, .int x1), (2, .int x2), (3, .int x3)] [] := by
  intro n
  induction n with
  | zero => intro x1 x2 x3 σ ; exact r_none
  | succ n ih =>
    intro x1 x2 x3 σ 
    refine r_iload_n (i := 3) hO rfl rfl dX2_find_2 ?_
    refine r_aload_n (i := 0) hO rfl rfl dX2_find_3 ?_
    refine gX2_9 hO hb dX2_find_4 ?_
    refine r_icmp_ge (tgt := 38) hO dX2_find_7 (by decide) ?_ ?_
    · refine r_iconst hO ci_m1 dX2_find_38 ?_
      exact r_iret hO hR dX2_find_39
    · refine r_aload_n (i := 0) hO rfl rfl dX2_find_10 ?_
      refine gX2_15 hO hb dX2_find_11 ?_
      refine r_iload_n (i := 3) hO rfl rfl dX2_find_14 ?_
      refine r_iald hO (sL_1 hb) dX2_find_15 ?_
      refine r_iload_n (i := 1) hO rfl rfl dX2_find_16 ?_
      refine r_icmp_ne (tgt := 32) hO dX2_find_17 (by decide) ?_ ?_
      · refine r_aload_n (i := 0) hO rfl rfl dX2_find_20 ?_
        refine gX2_19 hO hb dX2_find_21 ?_
        refine r_iload_n (i := 3) hO rfl rfl dX2_find_24 ?_
        refine r_iald hO (sL_2 hb) dX2_find_25 ?_
        refine r_iload_n (i := 2) hO rfl rfl dX2_find_26 ?_
        refine r_icmp_ne (tgt := 32) hO dX2_find_27 (by decide) ?_ ?_
        · refine r_iload_n (i := 3) hO rfl rfl dX2_find_30 ?_
          exact r_iret hO hR dX2_find_31
        · exact r_jmp (b_X2_find_32 hO hR hb ih x1 x2 x3 σ) (lsub_c rfl (lsub_c rfl (lsub_c rfl (lsub_c rfl lsub_n))))
      · exact r_jmp (b_X2_find_32 hO hR hb ih x1 x2 x3 σ) (lsub_c rfl (lsub_c rfl (lsub_c rfl (lsub_c rfl lsub_n))))
set_option maxRecDepth 20000 in
set_option maxHeartbeats 1000000 in
theorem b_X2_find {K : Kt} {b : Nat} (hO : Ok K cX2_find RX2 4 rm_X2_find) (hR : Rt K (some .int)) (hb : isL b) (a1 : Int32) (a2 : Int32) (σ : Wd) : Cm K 4 (0, 0) (f_X2_find b a1 a2 σ) σ 0 [(0, .ref (K.G.A b)), (1, .int a1), (2, .int a2)] [] := by
  refine r_iconst hO ci_0 dX2_find_0 ?_
  refine r_istore_n (i := 3) hO rfl rfl rfl dX2_find_1 ?_
  exact r_jmp (b_X2_find_2 hO hR hb FU a1 a2 (0 : Int32) σ) (lsub_c rfl (lsub_c rfl (lsub_c rfl (lsub_c rfl lsub_n))))
theorem c_X2_find {l : Launch} {G : Gh} {b : Nat} (hb : isL b) (a1 : Int32) (a2 : Int32) (σ : Wd) : Con l G yX2_find cX2_find 4 (some .int) 0 0 [.ref (G.A b), .int a1, .int a2] σ (f_X2_find b a1 a2 σ) := Con.of (plainFor_of_name (by decide)) rfl (Nat.le_of_ble_eq_true rfl) (fun K hl hG hO hR => by subst hl; subst hG; exact b_X2_find hO hR hb a1 a2 σ)
theorem cal_X2_find : CalV yX2_find cX2_find 4 (some .int) 2 := ⟨a_94, a_95, a_96, a_93, by decide, by decide, by decide +kernel⟩
theorem k_X2_find {K : Kt} {nL : Nat} {cs : Nat × Nat} {σ : Wd} {pc : Nat} {lv : List (Nat × Value)} {st : List Value} {cc : ByteArray} {own : String} {rm : Room} {index : Nat} {g : Int32 → Wd → Option (Int32 × Wd)} {b : Nat} {a1 : Int32} {a2 : Int32} (hO : Ok K cc own nL rm) (hb : isL b) (hl : Cond.methodLink own index yX2_find ∈ gtb) (hcat : Nat.ble ((st.map fun v => v.category).sum) 8 = true) (hR : RoomOk rm cs 0 0 4) (d : decode cc pc = .ok (.invokevirtual index, 3)) (kk : ∀ (r : Int32) (σ : Wd), Cm K nL cs (g r σ) σ (pc + 3) lv (.int r :: st)) : Cm K nL cs (bd (f_X2_find b a1 a2 σ) g) σ pc lv (.int a2 :: .int a1 :: .ref (K.G.A b) :: st) := r_cVi hO (c_X2_find hb a1 a2 σ) cal_X2_find hl rfl (isL_lt hb) (ent_X2 hb) rfl rfl hcat hR d kk
/-! OrderSplit_Ledger.unitsAt -/
def f_X2_unitsAt_22 (b : Nat)  (s0 : Int32) (σ : Wd) : Option (Int32 × Wd) := some (s0, σ)
def f_X2_unitsAt (b : Nat) (a1 : Int32) (a2 : Int32) (σ : Wd) : Option (Int32 × Wd) := bd (f_X2_find b a1 a2 σ) fun r1 σ2 => if r1 = (-1 : Int32) then (f_X2_unitsAt_22 b (0 : Int32) σ2) else (gd (inb r1 30) ((f_X2_unitsAt_22 b (σ2.1 (b + 3) (ix r1)) σ2)))
set_option maxRecDepth 20000 in
set_option maxHeartbeats 1000000 in
theorem b_X2_unitsAt_22 {K : Kt} {b : Nat}  (hO : Ok K cX2_unitsAt RX2 4 rm_X2_unitsAt) (hR : Rt K (some .int)) (hb : isL b)  (s0 : Int32) (σ : Wd)  : Cm K 4 (0, 0) (f_X2_unitsAt_22 b s0 σ) σ 22 [] [.int s0] := by
  exact r_iret hO hR dX2_unitsAt_22
set_option maxRecDepth 20000 in
set_option maxHeartbeats 1000000 in
theorem b_X2_unitsAt {K : Kt} {b : Nat} (hO : Ok K cX2_unitsAt RX2 4 rm_X2_unitsAt) (hR : Rt K (some .int)) (hb : isL b) (a1 : Int32) (a2 : Int32) (σ : Wd) : Cm K 4 (0, 0) (f_X2_unitsAt b a1 a2 σ) σ 0 [(0, .ref (K.G.A b)), (1, .int a1), (2, .int a2)] [] := by
  refine r_aload_n (i := 0) hO rfl rfl dX2_unitsAt_0 ?_
  refine r_iload_n (i := 1) hO rfl rfl dX2_unitsAt_1 ?_
  refine r_iload_n (i := 2) hO rfl rfl dX2_unitsAt_2 ?_
  refine k_X2_find hO hb a_97 rfl ⟨rfl, rfl, Nat.le_refl _, Nat.le_refl _⟩ dX2_unitsAt_3 ?_
  intro r1 σ2
  refine r_istore_n (i := 3) hO rfl rfl rfl dX2_unitsAt_6 ?_
  refine r_iload_n (i := 3) hO rfl rfl dX2_unitsAt_7 ?_
  refine r_iconst hO ci_m1 dX2_unitsAt_8 ?_
  refine r_icmp_ne (tgt := 16) hO dX2_unitsAt_9 (by decide) ?_ ?_
  · refine r_iconst hO ci_0 dX2_unitsAt_12 ?_
    refine r_goto (tgt := 22) hO dX2_unitsAt_13 (by decide) ?_
    exact r_jmp (b_X2_unitsAt_22 hO hR hb (0 : Int32) σ2) lsub_n
  · refine r_aload_n (i := 0) hO rfl rfl dX2_unitsAt_16 ?_
    refine gX2_22 hO hb dX2_unitsAt_17 ?_
    refine r_iload_n (i := 3) hO rfl rfl dX2_unitsAt_20 ?_
    refine r_iald hO (sL_3 hb) dX2_unitsAt_21 ?_
    exact r_jmp (b_X2_unitsAt_22 hO hR hb (σ2.1 (b + 3) (ix r1)) σ2) lsub_n
theorem c_X2_unitsAt {l : Launch} {G : Gh} {b : Nat} (hb : isL b) (a1 : Int32) (a2 : Int32) (σ : Wd) : Con l G yX2_unitsAt cX2_unitsAt 4 (some .int) 1 23 [.ref (G.A b), .int a1, .int a2] σ (f_X2_unitsAt b a1 a2 σ) := Con.of (plainFor_of_name (by decide)) rfl (Nat.le_of_ble_eq_true rfl) (fun K hl hG hO hR => by subst hl; subst hG; exact b_X2_unitsAt hO hR hb a1 a2 σ)
theorem cal_X2_unitsAt : CalV yX2_unitsAt cX2_unitsAt 4 (some .int) 2 := ⟨a_98, a_99, a_100, a_93, by decide, by decide, by decide +kernel⟩
theorem k_X2_unitsAt {K : Kt} {nL : Nat} {cs : Nat × Nat} {σ : Wd} {pc : Nat} {lv : List (Nat × Value)} {st : List Value} {cc : ByteArray} {own : String} {rm : Room} {index : Nat} {g : Int32 → Wd → Option (Int32 × Wd)} {b : Nat} {a1 : Int32} {a2 : Int32} (hO : Ok K cc own nL rm) (hb : isL b) (hl : Cond.methodLink own index yX2_unitsAt ∈ gtb) (hcat : Nat.ble ((st.map fun v => v.category).sum) 8 = true) (hR : RoomOk rm cs 1 23 4) (d : decode cc pc = .ok (.invokevirtual index, 3)) (kk : ∀ (r : Int32) (σ : Wd), Cm K nL cs (g r σ) σ (pc + 3) lv (.int r :: st)) : Cm K nL cs (bd (f_X2_unitsAt b a1 a2 σ) g) σ pc lv (.int a2 :: .int a1 :: .ref (K.G.A b) :: st) := r_cVi hO (c_X2_unitsAt hb a1 a2 σ) cal_X2_unitsAt hl rfl (isL_lt hb) (ent_X2 hb) rfl rfl hcat hR d kk
/-! OrderSplit_Ledger.note -/
def f_X2_note_77 (b : Nat)   (σ : Wd) : Option (Int32 × Wd) := some (0, σ)
def f_X2_note (b : Nat) (a1 : Int32) (a2 : Int32) (a3 : Int32) (σ : Wd) : Option (Int32 × Wd) := bd (f_X2_find b a1 a2 σ) fun r1 σ2 => if r1 = (-1 : Int32) then (if (30 : Int32) ≤ (σ2.1 b 0) then (f_X2_note_77 b σ2) else (gd (inb (σ2.1 b 0) 30) (nmW (wi σ2 (b + 1) (ix (σ2.1 b 0)) a1) fun σ3 => gd (inb (σ3.1 b 0) 30) (nmW (wi σ3 (b + 2) (ix (σ3.1 b 0)) a2) fun σ4 => gd (inb (σ4.1 b 0) 30) (nmW (wi σ4 (b + 3) (ix (σ4.1 b 0)) a3) fun σ5 => nmW (wi σ5 b 0 ((σ5.1 b 0) + (1 : Int32))) fun σ6 => (f_X2_note_77 b σ6)))))) else (gd (inb r1 30) (gd (inb r1 30) (nmW (wi σ2 (b + 3) (ix r1) ((σ2.1 (b + 3) (ix r1)) + a3)) fun σ7 => (f_X2_note_77 b σ7))))
set_option maxRecDepth 20000 in
set_option maxHeartbeats 1000000 in
theorem b_X2_note_77 {K : Kt} {b : Nat}  (hO : Ok K cX2_note RX2 5 rm_X2_note) (hR : Rt K none) (hb : isL b)   (σ : Wd)  : Cm K 5 (0, 0) (f_X2_note_77 b  σ) σ 77 [] [] := by
  exact r_vret hO hR dX2_note_77
set_option maxRecDepth 20000 in
set_option maxHeartbeats 1000000 in
theorem b_X2_note {K : Kt} {b : Nat} (hO : Ok K cX2_note RX2 5 rm_X2_note) (hR : Rt K none) (hb : isL b) (a1 : Int32) (a2 : Int32) (a3 : Int32) (σ : Wd) : Cm K 5 (0, 0) (f_X2_note b a1 a2 a3 σ) σ 0 [(0, .ref (K.G.A b)), (1, .int a1), (2, .int a2), (3, .int a3)] [] := by
  refine r_aload_n (i := 0) hO rfl rfl dX2_note_0 ?_
  refine r_iload_n (i := 1) hO rfl rfl dX2_note_1 ?_
  refine r_iload_n (i := 2) hO rfl rfl dX2_note_2 ?_
  refine k_X2_find hO hb a_97 rfl ⟨rfl, rfl, Nat.le_refl _, Nat.le_refl _⟩ dX2_note_3 ?_
  intro r1 σ2
  refine r_istore hO rfl rfl dX2_note_6 ?_
  refine r_iload hO (d := dX2_note_8) rfl ?_
  refine r_iconst hO ci_m1 dX2_note_10 ?_
  refine r_icmp_eq (tgt := 28) hO dX2_note_11 (by decide) ?_ ?_
  · refine r_aload_n (i := 0) hO rfl rfl dX2_note_28 ?_
    refine gX2_9 hO hb dX2_note_29 ?_
    refine r_bipush hO bi_30 dX2_note_32 ?_
    refine r_icmp_ge (tgt := 77) hO dX2_note_34 (by decide) ?_ ?_
    · exact r_jmp (b_X2_note_77 hO hR hb σ2) lsub_n
    · refine r_aload_n (i := 0) hO rfl rfl dX2_note_37 ?_
      refine gX2_15 hO hb dX2_note_38 ?_
      refine r_aload_n (i := 0) hO rfl rfl dX2_note_41 ?_
      refine gX2_9 hO hb dX2_note_42 ?_
      refine r_iload_n (i := 1) hO rfl rfl dX2_note_45 ?_
      refine r_iast hO (sL_1 hb) dX2_note_46 ?_
      refine r_nmW fun σ3 => ?_
      refine r_aload_n (i := 0) hO rfl rfl dX2_note_47 ?_
      refine gX2_19 hO hb dX2_note_48 ?_
      refine r_aload_n (i := 0) hO rfl rfl dX2_note_51 ?_
      refine gX2_9 hO hb dX2_note_52 ?_
      refine r_iload_n (i := 2) hO rfl rfl dX2_note_55 ?_
      refine r_iast hO (sL_2 hb) dX2_note_56 ?_
      refine r_nmW fun σ4 => ?_
      refine r_aload_n (i := 0) hO rfl rfl dX2_note_57 ?_
      refine gX2_22 hO hb dX2_note_58 ?_
      refine r_aload_n (i := 0) hO rfl rfl dX2_note_61 ?_
      refine gX2_9 hO hb dX2_note_62 ?_
      refine r_iload_n (i := 3) hO rfl rfl dX2_note_65 ?_
      refine r_iast hO (sL_3 hb) dX2_note_66 ?_
      refine r_nmW fun σ5 => ?_
      refine r_aload_n (i := 0) hO rfl rfl dX2_note_67 ?_
      refine r_dup hO rfl dX2_note_68 ?_
      refine gX2_9 hO hb dX2_note_69 ?_
      refine r_iconst hO ci_1 dX2_note_72 ?_
      refine r_iadd hO dX2_note_73 ?_
      refine pX2_9 hO hb dX2_note_74 ?_
      refine r_nmW fun σ6 => ?_
      exact r_jmp (b_X2_note_77 hO hR hb σ6) lsub_n
  · refine r_aload_n (i := 0) hO rfl rfl dX2_note_14 ?_
    refine gX2_22 hO hb dX2_note_15 ?_
    refine r_iload hO (d := dX2_note_18) rfl ?_
    refine r_dup2 hO rfl rfl dX2_note_20 ?_
    refine r_iald hO (sL_3 hb) dX2_note_21 ?_
    refine r_iload_n (i := 3) hO rfl rfl dX2_note_22 ?_
    refine r_iadd hO dX2_note_23 ?_
    refine r_iast hO (sL_3 hb) dX2_note_24 ?_
    refine r_nmW fun σ7 => ?_
    refine r_goto (tgt := 77) hO dX2_note_25 (by decide) ?_
    exact r_jmp (b_X2_note_77 hO hR hb σ7) lsub_n
theorem c_X2_note {l : Launch} {G : Gh} {b : Nat} (hb : isL b) (a1 : Int32) (a2 : Int32) (a3 : Int32) (σ : Wd) : Con l G yX2_note cX2_note 5 none 1 23 [.ref (G.A b), .int a1, .int a2, .int a3] σ (f_X2_note b a1 a2 a3 σ) := Con.of (plainFor_of_name (by decide)) rfl (Nat.le_of_ble_eq_true rfl) (fun K hl hG hO hR => by subst hl; subst hG; exact b_X2_note hO hR hb a1 a2 a3 σ)
theorem cal_X2_note : CalV yX2_note cX2_note 5 none 3 := ⟨a_101, a_102, a_103, a_93, by decide, by decide, by decide +kernel⟩
theorem k_X2_note {K : Kt} {nL : Nat} {cs : Nat × Nat} {σ : Wd} {pc : Nat} {lv : List (Nat × Value)} {st : List Value} {cc : ByteArray} {own : String} {rm : Room} {index : Nat} {g : Int32 → Wd → Option (Int32 × Wd)} {b : Nat} {a1 : Int32} {a2 : Int32} {a3 : Int32} (hO : Ok K cc own nL rm) (hb : isL b) (hl : Cond.methodLink own index yX2_note ∈ gtb) (hcat : Nat.ble ((st.map fun v => v.category).sum) 8 = true) (hR : RoomOk rm cs 1 23 5) (d : decode cc pc = .ok (.invokevirtual index, 3)) (kk : ∀ (r : Int32) (σ : Wd), Cm K nL cs (g r σ) σ (pc + 3) lv st) : Cm K nL cs (bd (f_X2_note b a1 a2 a3 σ) g) σ pc lv (.int a3 :: .int a2 :: .int a1 :: .ref (K.G.A b) :: st) := r_cVv hO (c_X2_note hb a1 a2 a3 σ) cal_X2_note hl rfl (isL_lt hb) (ent_X2 hb) rfl rfl hcat hR d kk

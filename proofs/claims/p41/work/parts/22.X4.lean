/-! OrderSplit_Run.drop -/
def f_X4_drop (b : Nat) (a1 : Int32) (σ : Wd) : Option (Int32 × Wd) := gd (inb a1 5) (nmW (wi σ (b + 1) (ix a1) (0 : Int32)) fun σ1 => gd (inb a1 5) (nmW (wi σ1 (b + 2) (ix a1) (0 : Int32)) fun σ2 => gd (inb a1 5) (nmW (wi σ2 (b + 3) (ix a1) (0 : Int32)) fun σ3 => gd (inb a1 5) (nmW (wi σ3 (b + 4) (ix a1) (0 : Int32)) fun σ4 => gd (inb a1 5) (nmW (wi σ4 (b + 5) (ix a1) (0 : Int32)) fun σ5 => gd (inb a1 5) (nmW (wi σ5 (b + 6) (ix a1) (0 : Int32)) fun σ6 => gd (inb a1 5) (nmW (wi σ6 (b + 7) (ix a1) (-2 : Int32)) fun σ7 => gd (inb a1 5) (nmW (wi σ7 (b + 8) (ix a1) (-2 : Int32)) fun σ8 => some (0, σ8)))))))))
set_option maxRecDepth 20000 in
set_option maxHeartbeats 1000000 in
theorem b_X4_drop {K : Kt} {b : Nat} (hO : Ok K cX4_drop RX4 2 rm_X4_drop) (hR : Rt K none) (hb : isR b) (a1 : Int32) (σ : Wd) : Cm K 2 (0, 0) (f_X4_drop b a1 σ) σ 0 [(0, .ref (K.G.A b)), (1, .int a1)] [] := by
  refine r_aload_n (i := 0) hO rfl rfl dX4_drop_0 ?_
  refine gX4_37 hO hb dX4_drop_1 ?_
  refine r_iload_n (i := 1) hO rfl rfl dX4_drop_4 ?_
  refine r_iconst hO ci_0 dX4_drop_5 ?_
  refine r_iast hO (sR_1 hb) dX4_drop_6 ?_
  refine r_nmW fun σ1 => ?_
  refine r_aload_n (i := 0) hO rfl rfl dX4_drop_7 ?_
  refine gX4_41 hO hb dX4_drop_8 ?_
  refine r_iload_n (i := 1) hO rfl rfl dX4_drop_11 ?_
  refine r_iconst hO ci_0 dX4_drop_12 ?_
  refine r_iast hO (sR_2 hb) dX4_drop_13 ?_
  refine r_nmW fun σ2 => ?_
  refine r_aload_n (i := 0) hO rfl rfl dX4_drop_14 ?_
  refine gX4_44 hO hb dX4_drop_15 ?_
  refine r_iload_n (i := 1) hO rfl rfl dX4_drop_18 ?_
  refine r_iconst hO ci_0 dX4_drop_19 ?_
  refine r_iast hO (sR_3 hb) dX4_drop_20 ?_
  refine r_nmW fun σ3 => ?_
  refine r_aload_n (i := 0) hO rfl rfl dX4_drop_21 ?_
  refine gX4_47 hO hb dX4_drop_22 ?_
  refine r_iload_n (i := 1) hO rfl rfl dX4_drop_25 ?_
  refine r_iconst hO ci_0 dX4_drop_26 ?_
  refine r_iast hO (sR_4 hb) dX4_drop_27 ?_
  refine r_nmW fun σ4 => ?_
  refine r_aload_n (i := 0) hO rfl rfl dX4_drop_28 ?_
  refine gX4_50 hO hb dX4_drop_29 ?_
  refine r_iload_n (i := 1) hO rfl rfl dX4_drop_32 ?_
  refine r_iconst hO ci_0 dX4_drop_33 ?_
  refine r_iast hO (sR_5 hb) dX4_drop_34 ?_
  refine r_nmW fun σ5 => ?_
  refine r_aload_n (i := 0) hO rfl rfl dX4_drop_35 ?_
  refine gX4_53 hO hb dX4_drop_36 ?_
  refine r_iload_n (i := 1) hO rfl rfl dX4_drop_39 ?_
  refine r_iconst hO ci_0 dX4_drop_40 ?_
  refine r_iast hO (sR_6 hb) dX4_drop_41 ?_
  refine r_nmW fun σ6 => ?_
  refine r_aload_n (i := 0) hO rfl rfl dX4_drop_42 ?_
  refine gX4_56 hO hb dX4_drop_43 ?_
  refine r_iload_n (i := 1) hO rfl rfl dX4_drop_46 ?_
  refine r_bipush hO bi_m2 dX4_drop_47 ?_
  refine r_iast hO (sR_7 hb) dX4_drop_49 ?_
  refine r_nmW fun σ7 => ?_
  refine r_aload_n (i := 0) hO rfl rfl dX4_drop_50 ?_
  refine gX4_59 hO hb dX4_drop_51 ?_
  refine r_iload_n (i := 1) hO rfl rfl dX4_drop_54 ?_
  refine r_bipush hO bi_m2 dX4_drop_55 ?_
  refine r_iast hO (sR_8 hb) dX4_drop_57 ?_
  refine r_nmW fun σ8 => ?_
  exact r_vret hO hR dX4_drop_58
theorem c_X4_drop {l : Launch} {G : Gh} {b : Nat} (hb : isR b) (a1 : Int32) (σ : Wd) : Con l G yX4_drop cX4_drop 2 none 0 0 [.ref (G.A b), .int a1] σ (f_X4_drop b a1 σ) := Con.of (plainFor_of_name (by decide)) rfl (Nat.le_of_ble_eq_true rfl) (fun K hl hG hO hR => by subst hl; subst hG; exact b_X4_drop hO hR hb a1 σ)
theorem cal_X4_drop : CalV yX4_drop cX4_drop 2 none 1 := ⟨a_146, a_147, a_148, a_149, by decide, by decide, by decide +kernel⟩
theorem k_X4_drop {K : Kt} {nL : Nat} {cs : Nat × Nat} {σ : Wd} {pc : Nat} {lv : List (Nat × Value)} {st : List Value} {cc : ByteArray} {own : String} {rm : Room} {index : Nat} {g : Int32 → Wd → Option (Int32 × Wd)} {b : Nat} {a1 : Int32} (hO : Ok K cc own nL rm) (hb : isR b) (hl : Cond.methodLink own index yX4_drop ∈ gtb) (hcat : Nat.ble ((st.map fun v => v.category).sum) 8 = true) (hR : RoomOk rm cs 0 0 2) (d : decode cc pc = .ok (.invokevirtual index, 3)) (kk : ∀ (r : Int32) (σ : Wd), Cm K nL cs (g r σ) σ (pc + 3) lv st) : Cm K nL cs (bd (f_X4_drop b a1 σ) g) σ pc lv (.int a1 :: .ref (K.G.A b) :: st) := r_cVv hO (c_X4_drop hb a1 σ) cal_X4_drop hl rfl (isR_lt hb) (ent_X4 hb) rfl rfl hcat hR d kk
/-! OrderSplit_Run.clear -/
def f_X4_clear_42 (b : Nat)  : Nat → Int32 → Wd → Option (Int32 × Wd)
  | 0 => fun _ _ => none
  | n + 1 => fun x1 σ => if (5 : Int32) ≤ x1 then (nmW (wi σ (b + 9) 0 (0 : Int32)) fun σ1 => some (0, σ1)) else (bd (f_X4_drop b x1 σ) fun _ σ2 => (f_X4_clear_42 b n (x1 + (1 : Int32)) σ2))
def f_X4_clear (b : Nat) (σ : Wd) : Option (Int32 × Wd) := gd (isb (0 : Int32)) (nmW (wi σ b 0 (0 : Int32)) fun σ1 => nmW (wi σ1 b 1 (0 : Int32)) fun σ2 => nmW (wi σ2 b 2 (0 : Int32)) fun σ3 => nmW (wi σ3 b 3 (0 : Int32)) fun σ4 => nmW (wi σ4 b 4 (0 : Int32)) fun σ5 => nmW (wi σ5 b 5 (0 : Int32)) fun σ6 => nmW (wi σ6 b 6 (0 : Int32)) fun σ7 => nmW (wi σ7 b 7 (0 : Int32)) fun σ8 => (f_X4_clear_42 b FU (0 : Int32) σ8))
set_option maxRecDepth 20000 in
set_option maxHeartbeats 1000000 in
theorem b_X4_clear_42 {K : Kt} {b : Nat}  (hO : Ok K cX4_clear RX4 2 rm_X4_clear) (hR : Rt K none) (hb : isR b)  : ∀ (n : Nat) (x1 : Int32) (σ : Wd) , Cm K 2 (0, 0) (f_X4_clear_42 b n x1 σ) σ 42 [(0, .ref (K.G.A b)), (1, .int x1)] [] := by
  intro n
  induction n with
  | zero => intro x1 σ ; exact r_none
  | succ n ih =>
    intro x1 σ 
    refine r_iload_n (i := 1) hO rfl rfl dX4_clear_42 ?_
    refine r_iconst hO ci_5 dX4_clear_43 ?_
    refine r_icmp_ge (tgt := 58) hO dX4_clear_44 (by decide) ?_ ?_
    · refine r_aload_n (i := 0) hO rfl rfl dX4_clear_58 ?_
      refine gX4_65 hO hb dX4_clear_59 ?_
      refine r_iconst hO ci_0 dX4_clear_62 ?_
      refine pX4_73 hO (isR_L hb) dX4_clear_63 ?_
      refine r_nmW fun σ1 => ?_
      exact r_vret hO hR dX4_clear_66
    · refine r_aload_n (i := 0) hO rfl rfl dX4_clear_47 ?_
      refine r_iload_n (i := 1) hO rfl rfl dX4_clear_48 ?_
      refine k_X4_drop hO hb a_150 rfl ⟨rfl, rfl, Nat.le_refl _, Nat.le_refl _⟩ dX4_clear_49 ?_
      intro _ σ2
      refine r_iinc hO rfl ci_1 rfl rfl dX4_clear_52 ?_
      refine r_goto (tgt := 42) hO dX4_clear_55 (by decide) ?_
      exact r_jmp (ih (x1 + (1 : Int32)) σ2) (lsub_c rfl (lsub_c rfl lsub_n))
set_option maxRecDepth 20000 in
set_option maxHeartbeats 1000000 in
theorem b_X4_clear {K : Kt} {b : Nat} (hO : Ok K cX4_clear RX4 2 rm_X4_clear) (hR : Rt K none) (hb : isR b)  (σ : Wd) : Cm K 2 (0, 0) (f_X4_clear b σ) σ 0 [(0, .ref (K.G.A b))] [] := by
  refine r_aload_n (i := 0) hO rfl rfl dX4_clear_0 ?_
  refine r_iconst hO ci_0 dX4_clear_1 ?_
  refine pX4_9 hO hb dX4_clear_2 ?_
  refine r_nmW fun σ1 => ?_
  refine r_aload_n (i := 0) hO rfl rfl dX4_clear_5 ?_
  refine r_iconst hO ci_0 dX4_clear_6 ?_
  refine pX4_15 hO hb dX4_clear_7 ?_
  refine r_nmW fun σ2 => ?_
  refine r_aload_n (i := 0) hO rfl rfl dX4_clear_10 ?_
  refine r_iconst hO ci_0 dX4_clear_11 ?_
  refine pX4_19 hO hb dX4_clear_12 ?_
  refine r_nmW fun σ3 => ?_
  refine r_aload_n (i := 0) hO rfl rfl dX4_clear_15 ?_
  refine r_iconst hO ci_0 dX4_clear_16 ?_
  refine pX4_22 hO hb dX4_clear_17 ?_
  refine r_nmW fun σ4 => ?_
  refine r_aload_n (i := 0) hO rfl rfl dX4_clear_20 ?_
  refine r_iconst hO ci_0 dX4_clear_21 ?_
  refine pX4_25 hO hb dX4_clear_22 ?_
  refine r_nmW fun σ5 => ?_
  refine r_aload_n (i := 0) hO rfl rfl dX4_clear_25 ?_
  refine r_iconst hO ci_0 dX4_clear_26 ?_
  refine pX4_28 hO hb dX4_clear_27 ?_
  refine r_nmW fun σ6 => ?_
  refine r_aload_n (i := 0) hO rfl rfl dX4_clear_30 ?_
  refine r_iconst hO ci_0 dX4_clear_31 ?_
  refine pX4_31 hO hb dX4_clear_32 ?_
  refine r_nmW fun σ7 => ?_
  refine r_aload_n (i := 0) hO rfl rfl dX4_clear_35 ?_
  refine r_iconst hO ci_0 dX4_clear_36 ?_
  refine pX4_34 hO hb dX4_clear_37 ?_
  refine r_nmW fun σ8 => ?_
  refine r_iconst hO ci_0 dX4_clear_40 ?_
  refine r_istore_n (i := 1) hO rfl rfl rfl dX4_clear_41 ?_
  exact r_jmp (b_X4_clear_42 hO hR hb FU (0 : Int32) σ8) (lsub_c rfl (lsub_c rfl lsub_n))
theorem c_X4_clear {l : Launch} {G : Gh} {b : Nat} (hb : isR b)  (σ : Wd) : Con l G yX4_clear cX4_clear 2 none 1 21 [.ref (G.A b)] σ (f_X4_clear b σ) := Con.of (plainFor_of_name (by decide)) rfl (Nat.le_of_ble_eq_true rfl) (fun K hl hG hO hR => by subst hl; subst hG; exact b_X4_clear hO hR hb  σ)
theorem cal_X4_clear : CalV yX4_clear cX4_clear 2 none 0 := ⟨a_151, a_152, a_153, a_149, by decide, by decide, by decide +kernel⟩
theorem k_X4_clear {K : Kt} {nL : Nat} {cs : Nat × Nat} {σ : Wd} {pc : Nat} {lv : List (Nat × Value)} {st : List Value} {cc : ByteArray} {own : String} {rm : Room} {index : Nat} {g : Int32 → Wd → Option (Int32 × Wd)} {b : Nat} (hO : Ok K cc own nL rm) (hb : isR b) (hl : Cond.methodLink own index yX4_clear ∈ gtb) (hcat : Nat.ble ((st.map fun v => v.category).sum) 8 = true) (hR : RoomOk rm cs 1 21 2) (d : decode cc pc = .ok (.invokevirtual index, 3)) (kk : ∀ (r : Int32) (σ : Wd), Cm K nL cs (g r σ) σ (pc + 3) lv st) : Cm K nL cs (bd (f_X4_clear b σ) g) σ pc lv (.ref (K.G.A b) :: st) := r_cVv hO (c_X4_clear hb  σ) cal_X4_clear hl rfl (isR_lt hb) (ent_X4 hb) rfl rfl hcat hR d kk
/-! OrderSplit_Run.copyFrom -/
def f_X4_copyFrom (b : Nat) (r1 : Nat) (σ : Wd) : Option (Int32 × Wd) := gd (isb (σ.1 r1 0)) (nmW (wi σ b 0 (σ.1 r1 0)) fun σ1 => nmW (wi σ1 b 1 (σ1.1 r1 1)) fun σ2 => nmW (wi σ2 b 2 (σ2.1 r1 2)) fun σ3 => nmW (wi σ3 b 3 (σ3.1 r1 3)) fun σ4 => nmW (wi σ4 b 4 (σ4.1 r1 4)) fun σ5 => nmW (wi σ5 b 5 (σ5.1 r1 5)) fun σ6 => nmW (wi σ6 b 6 (σ6.1 r1 6)) fun σ7 => nmW (wi σ7 b 7 (σ7.1 r1 7)) fun σ8 => nmW (wc σ8 (b + 1) (va_cpy (σ8.1 (r1 + 1)) (σ8.1 (b + 1)) 0 0 5)) fun σ9 => nmW (wc σ9 (b + 2) (va_cpy (σ9.1 (r1 + 2)) (σ9.1 (b + 2)) 0 0 5)) fun σ10 => nmW (wc σ10 (b + 3) (va_cpy (σ10.1 (r1 + 3)) (σ10.1 (b + 3)) 0 0 5)) fun σ11 => nmW (wc σ11 (b + 4) (va_cpy (σ11.1 (r1 + 4)) (σ11.1 (b + 4)) 0 0 5)) fun σ12 => nmW (wc σ12 (b + 5) (va_cpy (σ12.1 (r1 + 5)) (σ12.1 (b + 5)) 0 0 5)) fun σ13 => nmW (wc σ13 (b + 6) (va_cpy (σ13.1 (r1 + 6)) (σ13.1 (b + 6)) 0 0 5)) fun σ14 => nmW (wc σ14 (b + 7) (va_cpy (σ14.1 (r1 + 7)) (σ14.1 (b + 7)) 0 0 5)) fun σ15 => nmW (wc σ15 (b + 8) (va_cpy (σ15.1 (r1 + 8)) (σ15.1 (b + 8)) 0 0 5)) fun σ16 => bd (f_X2_copyFrom (b + 9) (r1 + 9) σ16) fun _ σ17 => some (0, σ17))
set_option maxRecDepth 20000 in
set_option maxHeartbeats 1000000 in
theorem b_X4_copyFrom {K : Kt} {b : Nat} {r1 : Nat} (hO : Ok K cX4_copyFrom RX4 2 rm_X4_copyFrom) (hR : Rt K none) (hb : isR b) (hr1 : isR r1)  (σ : Wd) : Cm K 2 (0, 0) (f_X4_copyFrom b r1 σ) σ 0 [(0, .ref (K.G.A b)), (1, .ref (K.G.A r1))] [] := by
  refine r_aload_n (i := 0) hO rfl rfl dX4_copyFrom_0 ?_
  refine r_aload_n (i := 1) hO rfl rfl dX4_copyFrom_1 ?_
  refine gX4_9 hO hr1 dX4_copyFrom_2 ?_
  refine pX4_9 hO hb dX4_copyFrom_5 ?_
  refine r_nmW fun σ1 => ?_
  refine r_aload_n (i := 0) hO rfl rfl dX4_copyFrom_8 ?_
  refine r_aload_n (i := 1) hO rfl rfl dX4_copyFrom_9 ?_
  refine gX4_15 hO hr1 dX4_copyFrom_10 ?_
  refine pX4_15 hO hb dX4_copyFrom_13 ?_
  refine r_nmW fun σ2 => ?_
  refine r_aload_n (i := 0) hO rfl rfl dX4_copyFrom_16 ?_
  refine r_aload_n (i := 1) hO rfl rfl dX4_copyFrom_17 ?_
  refine gX4_19 hO hr1 dX4_copyFrom_18 ?_
  refine pX4_19 hO hb dX4_copyFrom_21 ?_
  refine r_nmW fun σ3 => ?_
  refine r_aload_n (i := 0) hO rfl rfl dX4_copyFrom_24 ?_
  refine r_aload_n (i := 1) hO rfl rfl dX4_copyFrom_25 ?_
  refine gX4_22 hO hr1 dX4_copyFrom_26 ?_
  refine pX4_22 hO hb dX4_copyFrom_29 ?_
  refine r_nmW fun σ4 => ?_
  refine r_aload_n (i := 0) hO rfl rfl dX4_copyFrom_32 ?_
  refine r_aload_n (i := 1) hO rfl rfl dX4_copyFrom_33 ?_
  refine gX4_25 hO hr1 dX4_copyFrom_34 ?_
  refine pX4_25 hO hb dX4_copyFrom_37 ?_
  refine r_nmW fun σ5 => ?_
  refine r_aload_n (i := 0) hO rfl rfl dX4_copyFrom_40 ?_
  refine r_aload_n (i := 1) hO rfl rfl dX4_copyFrom_41 ?_
  refine gX4_28 hO hr1 dX4_copyFrom_42 ?_
  refine pX4_28 hO hb dX4_copyFrom_45 ?_
  refine r_nmW fun σ6 => ?_
  refine r_aload_n (i := 0) hO rfl rfl dX4_copyFrom_48 ?_
  refine r_aload_n (i := 1) hO rfl rfl dX4_copyFrom_49 ?_
  refine gX4_31 hO hr1 dX4_copyFrom_50 ?_
  refine pX4_31 hO hb dX4_copyFrom_53 ?_
  refine r_nmW fun σ7 => ?_
  refine r_aload_n (i := 0) hO rfl rfl dX4_copyFrom_56 ?_
  refine r_aload_n (i := 1) hO rfl rfl dX4_copyFrom_57 ?_
  refine gX4_34 hO hr1 dX4_copyFrom_58 ?_
  refine pX4_34 hO hb dX4_copyFrom_61 ?_
  refine r_nmW fun σ8 => ?_
  refine r_aload_n (i := 1) hO rfl rfl dX4_copyFrom_64 ?_
  refine gX4_37 hO hr1 dX4_copyFrom_65 ?_
  refine r_iconst hO ci_0 dX4_copyFrom_68 ?_
  refine r_aload_n (i := 0) hO rfl rfl dX4_copyFrom_69 ?_
  refine gX4_37 hO hb dX4_copyFrom_70 ?_
  refine r_iconst hO ci_0 dX4_copyFrom_73 ?_
  refine r_iconst hO ci_5 dX4_copyFrom_74 ?_
  refine r_copy hO (sR_1 hr1) (sR_1 hb) a_154 a_87 a_88 a_89 rfl rfl (by decide) (by decide) (by decide) (by decide) dX4_copyFrom_75 ?_
  refine r_nmW fun σ9 => ?_
  refine r_aload_n (i := 1) hO rfl rfl dX4_copyFrom_78 ?_
  refine gX4_41 hO hr1 dX4_copyFrom_79 ?_
  refine r_iconst hO ci_0 dX4_copyFrom_82 ?_
  refine r_aload_n (i := 0) hO rfl rfl dX4_copyFrom_83 ?_
  refine gX4_41 hO hb dX4_copyFrom_84 ?_
  refine r_iconst hO ci_0 dX4_copyFrom_87 ?_
  refine r_iconst hO ci_5 dX4_copyFrom_88 ?_
  refine r_copy hO (sR_2 hr1) (sR_2 hb) a_154 a_87 a_88 a_89 rfl rfl (by decide) (by decide) (by decide) (by decide) dX4_copyFrom_89 ?_
  refine r_nmW fun σ10 => ?_
  refine r_aload_n (i := 1) hO rfl rfl dX4_copyFrom_92 ?_
  refine gX4_44 hO hr1 dX4_copyFrom_93 ?_
  refine r_iconst hO ci_0 dX4_copyFrom_96 ?_
  refine r_aload_n (i := 0) hO rfl rfl dX4_copyFrom_97 ?_
  refine gX4_44 hO hb dX4_copyFrom_98 ?_
  refine r_iconst hO ci_0 dX4_copyFrom_101 ?_
  refine r_iconst hO ci_5 dX4_copyFrom_102 ?_
  refine r_copy hO (sR_3 hr1) (sR_3 hb) a_154 a_87 a_88 a_89 rfl rfl (by decide) (by decide) (by decide) (by decide) dX4_copyFrom_103 ?_
  refine r_nmW fun σ11 => ?_
  refine r_aload_n (i := 1) hO rfl rfl dX4_copyFrom_106 ?_
  refine gX4_47 hO hr1 dX4_copyFrom_107 ?_
  refine r_iconst hO ci_0 dX4_copyFrom_110 ?_
  refine r_aload_n (i := 0) hO rfl rfl dX4_copyFrom_111 ?_
  refine gX4_47 hO hb dX4_copyFrom_112 ?_
  refine r_iconst hO ci_0 dX4_copyFrom_115 ?_
  refine r_iconst hO ci_5 dX4_copyFrom_116 ?_
  refine r_copy hO (sR_4 hr1) (sR_4 hb) a_154 a_87 a_88 a_89 rfl rfl (by decide) (by decide) (by decide) (by decide) dX4_copyFrom_117 ?_
  refine r_nmW fun σ12 => ?_
  refine r_aload_n (i := 1) hO rfl rfl dX4_copyFrom_120 ?_
  refine gX4_50 hO hr1 dX4_copyFrom_121 ?_
  refine r_iconst hO ci_0 dX4_copyFrom_124 ?_
  refine r_aload_n (i := 0) hO rfl rfl dX4_copyFrom_125 ?_
  refine gX4_50 hO hb dX4_copyFrom_126 ?_
  refine r_iconst hO ci_0 dX4_copyFrom_129 ?_
  refine r_iconst hO ci_5 dX4_copyFrom_130 ?_
  refine r_copy hO (sR_5 hr1) (sR_5 hb) a_154 a_87 a_88 a_89 rfl rfl (by decide) (by decide) (by decide) (by decide) dX4_copyFrom_131 ?_
  refine r_nmW fun σ13 => ?_
  refine r_aload_n (i := 1) hO rfl rfl dX4_copyFrom_134 ?_
  refine gX4_53 hO hr1 dX4_copyFrom_135 ?_
  refine r_iconst hO ci_0 dX4_copyFrom_138 ?_
  refine r_aload_n (i := 0) hO rfl rfl dX4_copyFrom_139 ?_
  refine gX4_53 hO hb dX4_copyFrom_140 ?_
  refine r_iconst hO ci_0 dX4_copyFrom_143 ?_
  refine r_iconst hO ci_5 dX4_copyFrom_144 ?_
  refine r_copy hO (sR_6 hr1) (sR_6 hb) a_154 a_87 a_88 a_89 rfl rfl (by decide) (by decide) (by decide) (by decide) dX4_copyFrom_145 ?_
  refine r_nmW fun σ14 => ?_
  refine r_aload_n (i := 1) hO rfl rfl dX4_copyFrom_148 ?_
  refine gX4_56 hO hr1 dX4_copyFrom_149 ?_
  refine r_iconst hO ci_0 dX4_copyFrom_152 ?_
  refine r_aload_n (i := 0) hO rfl rfl dX4_copyFrom_153 ?_
  refine gX4_56 hO hb dX4_copyFrom_154 ?_
  refine r_iconst hO ci_0 dX4_copyFrom_157 ?_
  refine r_iconst hO ci_5 dX4_copyFrom_158 ?_
  refine r_copy hO (sR_7 hr1) (sR_7 hb) a_154 a_87 a_88 a_89 rfl rfl (by decide) (by decide) (by decide) (by decide) dX4_copyFrom_159 ?_
  refine r_nmW fun σ15 => ?_
  refine r_aload_n (i := 1) hO rfl rfl dX4_copyFrom_162 ?_
  refine gX4_59 hO hr1 dX4_copyFrom_163 ?_
  refine r_iconst hO ci_0 dX4_copyFrom_166 ?_
  refine r_aload_n (i := 0) hO rfl rfl dX4_copyFrom_167 ?_
  refine gX4_59 hO hb dX4_copyFrom_168 ?_
  refine r_iconst hO ci_0 dX4_copyFrom_171 ?_
  refine r_iconst hO ci_5 dX4_copyFrom_172 ?_
  refine r_copy hO (sR_8 hr1) (sR_8 hb) a_154 a_87 a_88 a_89 rfl rfl (by decide) (by decide) (by decide) (by decide) dX4_copyFrom_173 ?_
  refine r_nmW fun σ16 => ?_
  refine r_aload_n (i := 0) hO rfl rfl dX4_copyFrom_176 ?_
  refine gX4_65 hO hb dX4_copyFrom_177 ?_
  refine r_aload_n (i := 1) hO rfl rfl dX4_copyFrom_180 ?_
  refine gX4_65 hO hr1 dX4_copyFrom_181 ?_
  refine k_X2_copyFrom hO (isR_L hb) (isR_L hr1) a_155 rfl ⟨rfl, rfl, Nat.le_refl _, Nat.le_refl _⟩ dX4_copyFrom_184 ?_
  intro _ σ17
  exact r_vret hO hR dX4_copyFrom_187
theorem c_X4_copyFrom {l : Launch} {G : Gh} {b : Nat} {r1 : Nat} (hb : isR b) (hr1 : isR r1)  (σ : Wd) : Con l G yX4_copyFrom cX4_copyFrom 2 none 2 47 [.ref (G.A b), .ref (G.A r1)] σ (f_X4_copyFrom b r1 σ) := Con.of (plainFor_of_name (by decide)) rfl (Nat.le_of_ble_eq_true rfl) (fun K hl hG hO hR => by subst hl; subst hG; exact b_X4_copyFrom hO hR hb hr1  σ)
theorem cal_X4_copyFrom : CalV yX4_copyFrom cX4_copyFrom 2 none 1 := ⟨a_156, a_157, a_158, a_149, by decide, by decide, by decide +kernel⟩
theorem k_X4_copyFrom {K : Kt} {nL : Nat} {cs : Nat × Nat} {σ : Wd} {pc : Nat} {lv : List (Nat × Value)} {st : List Value} {cc : ByteArray} {own : String} {rm : Room} {index : Nat} {g : Int32 → Wd → Option (Int32 × Wd)} {b : Nat} {r1 : Nat} (hO : Ok K cc own nL rm) (hb : isR b) (hr1 : isR r1) (hl : Cond.methodLink own index yX4_copyFrom ∈ gtb) (hcat : Nat.ble ((st.map fun v => v.category).sum) 8 = true) (hR : RoomOk rm cs 2 47 2) (d : decode cc pc = .ok (.invokevirtual index, 3)) (kk : ∀ (r : Int32) (σ : Wd), Cm K nL cs (g r σ) σ (pc + 3) lv st) : Cm K nL cs (bd (f_X4_copyFrom b r1 σ) g) σ pc lv (.ref (K.G.A r1) :: .ref (K.G.A b) :: st) := r_cVv hO (c_X4_copyFrom hb hr1  σ) cal_X4_copyFrom hl rfl (isR_lt hb) (ent_X4 hb) rfl rfl hcat hR d kk
/-! OrderSplit_Run.nothingUnderWay -/
def f_X4_nothingUnderWay_2 (b : Nat) (m1 : Nat)  : Nat → Int32 → Wd → Option (Int32 × Wd)
  | 0 => fun _ _ => none
  | n + 1 => fun x2 σ => if (σ.1 m1 3) ≤ x2 then (gd (isb (1 : Int32)) (some ((1 : Int32), σ))) else (gd (inb x2 5) (if (σ.1 (b + 1) (ix x2)) = 0 then (f_X4_nothingUnderWay_2 b m1 n (x2 + (1 : Int32)) σ) else (gd (isb (0 : Int32)) (some ((0 : Int32), σ)))))
def f_X4_nothingUnderWay (b : Nat) (m1 : Nat) (σ : Wd) : Option (Int32 × Wd) := (f_X4_nothingUnderWay_2 b m1 FU (0 : Int32) σ)
set_option maxRecDepth 20000 in
set_option maxHeartbeats 1000000 in
theorem b_X4_nothingUnderWay_2 {K : Kt} {b : Nat} {m1 : Nat}  (hO : Ok K cX4_nothingUnderWay RX4 3 rm_X4_nothingUnderWay) (hR : Rt K (some .boolean)) (hb : isR b) (hm1 : isM m1)  : ∀ (n : Nat) (x2 : Int32) (σ : Wd) , Cm K 3 (0, 0) (f_X4_nothingUnderWay_2 b m1 n x2 σ) σ 2 [(0, .ref (K.G.A b)), (1, .ref (K.G.A m1)), (2, .int x2)] [] := by
  intro n
  induction n with
  | zero => intro x2 σ ; exact r_none
  | succ n ih =>
    intro x2 σ 
    refine r_iload_n (i := 2) hO rfl rfl dX4_nothingUnderWay_2 ?_
    refine r_aload_n (i := 1) hO rfl rfl dX4_nothingUnderWay_3 ?_
    refine gX4_86 hO hm1 dX4_nothingUnderWay_4 ?_
    refine r_icmp_ge (tgt := 27) hO dX4_nothingUnderWay_7 (by decide) ?_ ?_
    · refine r_iconst hO ci_1 dX4_nothingUnderWay_27 ?_
      exact r_zret hO hR dX4_nothingUnderWay_28
    · refine r_aload_n (i := 0) hO rfl rfl dX4_nothingUnderWay_10 ?_
      refine gX4_37 hO hb dX4_nothingUnderWay_11 ?_
      refine r_iload_n (i := 2) hO rfl rfl dX4_nothingUnderWay_14 ?_
      refine r_iald hO (sR_1 hb) dX4_nothingUnderWay_15 ?_
      refine r_if_eq (tgt := 21) hO dX4_nothingUnderWay_16 (by decide) ?_ ?_
      · refine r_iinc hO rfl ci_1 rfl rfl dX4_nothingUnderWay_21 ?_
        refine r_goto (tgt := 2) hO dX4_nothingUnderWay_24 (by decide) ?_
        exact r_jmp (ih (x2 + (1 : Int32)) σ) (lsub_c rfl (lsub_c rfl (lsub_c rfl lsub_n)))
      · refine r_iconst hO ci_0 dX4_nothingUnderWay_19 ?_
        exact r_zret hO hR dX4_nothingUnderWay_20
set_option maxRecDepth 20000 in
set_option maxHeartbeats 1000000 in
theorem b_X4_nothingUnderWay {K : Kt} {b : Nat} {m1 : Nat} (hO : Ok K cX4_nothingUnderWay RX4 3 rm_X4_nothingUnderWay) (hR : Rt K (some .boolean)) (hb : isR b) (hm1 : isM m1)  (σ : Wd) : Cm K 3 (0, 0) (f_X4_nothingUnderWay b m1 σ) σ 0 [(0, .ref (K.G.A b)), (1, .ref (K.G.A m1))] [] := by
  refine r_iconst hO ci_0 dX4_nothingUnderWay_0 ?_
  refine r_istore_n (i := 2) hO rfl rfl rfl dX4_nothingUnderWay_1 ?_
  exact r_jmp (b_X4_nothingUnderWay_2 hO hR hb hm1 FU (0 : Int32) σ) (lsub_c rfl (lsub_c rfl (lsub_c rfl lsub_n)))
theorem c_X4_nothingUnderWay {l : Launch} {G : Gh} {b : Nat} {m1 : Nat} (hb : isR b) (hm1 : isM m1)  (σ : Wd) : Con l G yX4_nothingUnderWay cX4_nothingUnderWay 3 (some .boolean) 0 0 [.ref (G.A b), .ref (G.A m1)] σ (f_X4_nothingUnderWay b m1 σ) := Con.of (plainFor_of_name (by decide)) rfl (Nat.le_of_ble_eq_true rfl) (fun K hl hG hO hR => by subst hl; subst hG; exact b_X4_nothingUnderWay hO hR hb hm1  σ)
theorem cal_X4_nothingUnderWay : CalV yX4_nothingUnderWay cX4_nothingUnderWay 3 (some .boolean) 1 := ⟨a_159, a_160, a_161, a_149, by decide, by decide, by decide +kernel⟩
theorem k_X4_nothingUnderWay {K : Kt} {nL : Nat} {cs : Nat × Nat} {σ : Wd} {pc : Nat} {lv : List (Nat × Value)} {st : List Value} {cc : ByteArray} {own : String} {rm : Room} {index : Nat} {g : Int32 → Wd → Option (Int32 × Wd)} {b : Nat} {m1 : Nat} (hO : Ok K cc own nL rm) (hb : isR b) (hm1 : isM m1) (hl : Cond.methodLink own index yX4_nothingUnderWay ∈ gtb) (hcat : Nat.ble ((st.map fun v => v.category).sum) 8 = true) (hR : RoomOk rm cs 0 0 3) (d : decode cc pc = .ok (.invokevirtual index, 3)) (kk : ∀ (r : Int32) (σ : Wd), Cm K nL cs (g r σ) σ (pc + 3) lv (.int r :: st)) : Cm K nL cs (bd (f_X4_nothingUnderWay b m1 σ) g) σ pc lv (.ref (K.G.A m1) :: .ref (K.G.A b) :: st) := r_cVi hO (c_X4_nothingUnderWay hb hm1  σ) cal_X4_nothingUnderWay hl rfl (isR_lt hb) (ent_X4 hb) rfl rfl hcat hR d kk
/-! OrderSplit_Run.isOver -/
def f_X4_isOver_15 (b : Nat) (m1 : Nat)   (σ : Wd) : Option (Int32 × Wd) := gd (isb (0 : Int32)) (some ((0 : Int32), σ))
def f_X4_isOver_51 (b : Nat) (m1 : Nat)  (s0 : Int32) (σ : Wd) : Option (Int32 × Wd) := gd (isb s0) (some (s0, σ))
def f_X4_isOver_46 (b : Nat) (m1 : Nat)   (σ : Wd) : Option (Int32 × Wd) := (f_X4_isOver_51 b m1 (1 : Int32) σ)
def f_X4_isOver_50 (b : Nat) (m1 : Nat)   (σ : Wd) : Option (Int32 × Wd) := (f_X4_isOver_51 b m1 (0 : Int32) σ)
def f_X4_isOver (b : Nat) (m1 : Nat) (σ : Wd) : Option (Int32 × Wd) := if (σ.1 b 0) = 0 then (f_X4_isOver_15 b m1 σ) else (bd (f_X4_nothingUnderWay b m1 σ) fun r1 σ2 => if r1 = 0 then (f_X4_isOver_15 b m1 σ2) else (if (σ2.1 b 2) = 0 then (f_X4_isOver_46 b m1 σ2) else (if (σ2.1 b 7) = (σ2.1 m1 4) then (bd (f_X3_hasLotWithin m1 (σ2.1 b 2) σ2) fun r3 σ4 => if r3 = 0 then (f_X4_isOver_46 b m1 σ4) else (f_X4_isOver_50 b m1 σ4)) else (f_X4_isOver_50 b m1 σ2))))
set_option maxRecDepth 20000 in
set_option maxHeartbeats 1000000 in
theorem b_X4_isOver_15 {K : Kt} {b : Nat} {m1 : Nat}  (hO : Ok K cX4_isOver RX4 2 rm_X4_isOver) (hR : Rt K (some .boolean)) (hb : isR b) (hm1 : isM m1)   (σ : Wd)  : Cm K 2 (0, 0) (f_X4_isOver_15 b m1  σ) σ 15 [] [] := by
  refine r_iconst hO ci_0 dX4_isOver_15 ?_
  exact r_zret hO hR dX4_isOver_16
set_option maxRecDepth 20000 in
set_option maxHeartbeats 1000000 in
theorem b_X4_isOver_51 {K : Kt} {b : Nat} {m1 : Nat}  (hO : Ok K cX4_isOver RX4 2 rm_X4_isOver) (hR : Rt K (some .boolean)) (hb : isR b) (hm1 : isM m1)  (s0 : Int32) (σ : Wd)  : Cm K 2 (0, 0) (f_X4_isOver_51 b m1 s0 σ) σ 51 [] [.int s0] := by
  exact r_zret hO hR dX4_isOver_51
set_option maxRecDepth 20000 in
set_option maxHeartbeats 1000000 in
theorem b_X4_isOver_46 {K : Kt} {b : Nat} {m1 : Nat}  (hO : Ok K cX4_isOver RX4 2 rm_X4_isOver) (hR : Rt K (some .boolean)) (hb : isR b) (hm1 : isM m1)   (σ : Wd)  : Cm K 2 (0, 0) (f_X4_isOver_46 b m1  σ) σ 46 [] [] := by
  refine r_iconst hO ci_1 dX4_isOver_46 ?_
  refine r_goto (tgt := 51) hO dX4_isOver_47 (by decide) ?_
  exact r_jmp (b_X4_isOver_51 hO hR hb hm1 (1 : Int32) σ) lsub_n
set_option maxRecDepth 20000 in
set_option maxHeartbeats 1000000 in
theorem b_X4_isOver_50 {K : Kt} {b : Nat} {m1 : Nat}  (hO : Ok K cX4_isOver RX4 2 rm_X4_isOver) (hR : Rt K (some .boolean)) (hb : isR b) (hm1 : isM m1)   (σ : Wd)  : Cm K 2 (0, 0) (f_X4_isOver_50 b m1  σ) σ 50 [] [] := by
  refine r_iconst hO ci_0 dX4_isOver_50 ?_
  exact r_jmp (b_X4_isOver_51 hO hR hb hm1 (0 : Int32) σ) lsub_n
set_option maxRecDepth 20000 in
set_option maxHeartbeats 1000000 in
theorem b_X4_isOver {K : Kt} {b : Nat} {m1 : Nat} (hO : Ok K cX4_isOver RX4 2 rm_X4_isOver) (hR : Rt K (some .boolean)) (hb : isR b) (hm1 : isM m1)  (σ : Wd) : Cm K 2 (0, 0) (f_X4_isOver b m1 σ) σ 0 [(0, .ref (K.G.A b)), (1, .ref (K.G.A m1))] [] := by
  refine r_aload_n (i := 0) hO rfl rfl dX4_isOver_0 ?_
  refine gX4_9 hO hb dX4_isOver_1 ?_
  refine r_if_eq (tgt := 15) hO dX4_isOver_4 (by decide) ?_ ?_
  · exact r_jmp (b_X4_isOver_15 hO hR hb hm1 σ) lsub_n
  · refine r_aload_n (i := 0) hO rfl rfl dX4_isOver_7 ?_
    refine r_aload_n (i := 1) hO rfl rfl dX4_isOver_8 ?_
    refine k_X4_nothingUnderWay hO hb hm1 a_162 rfl ⟨rfl, rfl, Nat.le_refl _, Nat.le_refl _⟩ dX4_isOver_9 ?_
    intro r1 σ2
    refine r_if_ne (tgt := 17) hO dX4_isOver_12 (by decide) ?_ ?_
    · exact r_jmp (b_X4_isOver_15 hO hR hb hm1 σ2) lsub_n
    · refine r_aload_n (i := 0) hO rfl rfl dX4_isOver_17 ?_
      refine gX4_19 hO hb dX4_isOver_18 ?_
      refine r_if_eq (tgt := 46) hO dX4_isOver_21 (by decide) ?_ ?_
      · exact r_jmp (b_X4_isOver_46 hO hR hb hm1 σ2) lsub_n
      · refine r_aload_n (i := 0) hO rfl rfl dX4_isOver_24 ?_
        refine gX4_34 hO hb dX4_isOver_25 ?_
        refine r_aload_n (i := 1) hO rfl rfl dX4_isOver_28 ?_
        refine gX4_95 hO hm1 dX4_isOver_29 ?_
        refine r_icmp_ne (tgt := 50) hO dX4_isOver_32 (by decide) ?_ ?_
        · refine r_aload_n (i := 1) hO rfl rfl dX4_isOver_35 ?_
          refine r_aload_n (i := 0) hO rfl rfl dX4_isOver_36 ?_
          refine gX4_19 hO hb dX4_isOver_37 ?_
          refine k_X3_hasLotWithin hO hm1 a_163 rfl ⟨rfl, rfl, Nat.le_refl _, Nat.le_refl _⟩ dX4_isOver_40 ?_
          intro r3 σ4
          refine r_if_ne (tgt := 50) hO dX4_isOver_43 (by decide) ?_ ?_
          · exact r_jmp (b_X4_isOver_46 hO hR hb hm1 σ4) lsub_n
          · exact r_jmp (b_X4_isOver_50 hO hR hb hm1 σ4) lsub_n
        · exact r_jmp (b_X4_isOver_50 hO hR hb hm1 σ2) lsub_n
theorem c_X4_isOver {l : Launch} {G : Gh} {b : Nat} {m1 : Nat} (hb : isR b) (hm1 : isM m1)  (σ : Wd) : Con l G yX4_isOver cX4_isOver 2 (some .boolean) 3 71 [.ref (G.A b), .ref (G.A m1)] σ (f_X4_isOver b m1 σ) := Con.of (plainFor_of_name (by decide)) rfl (Nat.le_of_ble_eq_true rfl) (fun K hl hG hO hR => by subst hl; subst hG; exact b_X4_isOver hO hR hb hm1  σ)
theorem cal_X4_isOver : CalV yX4_isOver cX4_isOver 2 (some .boolean) 1 := ⟨a_164, a_165, a_166, a_149, by decide, by decide, by decide +kernel⟩
theorem k_X4_isOver {K : Kt} {nL : Nat} {cs : Nat × Nat} {σ : Wd} {pc : Nat} {lv : List (Nat × Value)} {st : List Value} {cc : ByteArray} {own : String} {rm : Room} {index : Nat} {g : Int32 → Wd → Option (Int32 × Wd)} {b : Nat} {m1 : Nat} (hO : Ok K cc own nL rm) (hb : isR b) (hm1 : isM m1) (hl : Cond.methodLink own index yX4_isOver ∈ gtb) (hcat : Nat.ble ((st.map fun v => v.category).sum) 8 = true) (hR : RoomOk rm cs 3 71 2) (d : decode cc pc = .ok (.invokevirtual index, 3)) (kk : ∀ (r : Int32) (σ : Wd), Cm K nL cs (g r σ) σ (pc + 3) lv (.int r :: st)) : Cm K nL cs (bd (f_X4_isOver b m1 σ) g) σ pc lv (.ref (K.G.A m1) :: .ref (K.G.A b) :: st) := r_cVi hO (c_X4_isOver hb hm1  σ) cal_X4_isOver hl rfl (isR_lt hb) (ent_X4 hb) rfl rfl hcat hR d kk
/-! OrderSplit_Run.send -/
def f_X4_send (b : Nat) (m1 : Nat) (a2 : Int32) (a3 : Int32) (σ : Wd) : Option (Int32 × Wd) := bd (f_X4_drop b a2 σ) fun _ σ1 => gd (inb a2 5) (nmW (wi σ1 (b + 1) (ix a2) (1 : Int32)) fun σ2 => gd (inb a2 5) (nmW (wi σ2 (b + 2) (ix a2) a3) fun σ3 => bd (f_X3_costOf m1 a2 a3 σ3) fun r4 σ5 => gd (inb a2 5) (nmW (wi σ5 (b + 5) (ix a2) r4) fun σ6 => bd (f_X3_capOf m1 a2 a3 σ6) fun r7 σ8 => gd (inb a2 5) (nmW (wi σ8 (b + 6) (ix a2) r7) fun σ9 => gd (inb a2 5) (gd (inb a2 5) (nmW (wi σ9 (b + 7) (ix a2) ((σ9.1 b 1) + (σ9.1 (m1 + 5) (ix a2)))) fun σ10 => some (0, σ10)))))))
set_option maxRecDepth 20000 in
set_option maxHeartbeats 1000000 in
theorem b_X4_send {K : Kt} {b : Nat} {m1 : Nat} (hO : Ok K cX4_send RX4 4 rm_X4_send) (hR : Rt K none) (hb : isR b) (hm1 : isM m1) (a2 : Int32) (a3 : Int32) (σ : Wd) : Cm K 4 (0, 0) (f_X4_send b m1 a2 a3 σ) σ 0 [(0, .ref (K.G.A b)), (1, .ref (K.G.A m1)), (2, .int a2), (3, .int a3)] [] := by
  refine r_aload_n (i := 0) hO rfl rfl dX4_send_0 ?_
  refine r_iload_n (i := 2) hO rfl rfl dX4_send_1 ?_
  refine k_X4_drop hO hb a_150 rfl ⟨rfl, rfl, Nat.le_refl _, Nat.le_refl _⟩ dX4_send_2 ?_
  intro _ σ1
  refine r_aload_n (i := 0) hO rfl rfl dX4_send_5 ?_
  refine gX4_37 hO hb dX4_send_6 ?_
  refine r_iload_n (i := 2) hO rfl rfl dX4_send_9 ?_
  refine r_iconst hO ci_1 dX4_send_10 ?_
  refine r_iast hO (sR_1 hb) dX4_send_11 ?_
  refine r_nmW fun σ2 => ?_
  refine r_aload_n (i := 0) hO rfl rfl dX4_send_12 ?_
  refine gX4_41 hO hb dX4_send_13 ?_
  refine r_iload_n (i := 2) hO rfl rfl dX4_send_16 ?_
  refine r_iload_n (i := 3) hO rfl rfl dX4_send_17 ?_
  refine r_iast hO (sR_2 hb) dX4_send_18 ?_
  refine r_nmW fun σ3 => ?_
  refine r_aload_n (i := 0) hO rfl rfl dX4_send_19 ?_
  refine gX4_50 hO hb dX4_send_20 ?_
  refine r_iload_n (i := 2) hO rfl rfl dX4_send_23 ?_
  refine r_aload_n (i := 1) hO rfl rfl dX4_send_24 ?_
  refine r_iload_n (i := 2) hO rfl rfl dX4_send_25 ?_
  refine r_iload_n (i := 3) hO rfl rfl dX4_send_26 ?_
  refine k_X3_costOf hO hm1 a_167 rfl ⟨rfl, rfl, Nat.le_refl _, Nat.le_refl _⟩ dX4_send_27 ?_
  intro r4 σ5
  refine r_iast hO (sR_5 hb) dX4_send_30 ?_
  refine r_nmW fun σ6 => ?_
  refine r_aload_n (i := 0) hO rfl rfl dX4_send_31 ?_
  refine gX4_53 hO hb dX4_send_32 ?_
  refine r_iload_n (i := 2) hO rfl rfl dX4_send_35 ?_
  refine r_aload_n (i := 1) hO rfl rfl dX4_send_36 ?_
  refine r_iload_n (i := 2) hO rfl rfl dX4_send_37 ?_
  refine r_iload_n (i := 3) hO rfl rfl dX4_send_38 ?_
  refine k_X3_capOf hO hm1 a_168 rfl ⟨rfl, rfl, Nat.le_refl _, Nat.le_refl _⟩ dX4_send_39 ?_
  intro r7 σ8
  refine r_iast hO (sR_6 hb) dX4_send_42 ?_
  refine r_nmW fun σ9 => ?_
  refine r_aload_n (i := 0) hO rfl rfl dX4_send_43 ?_
  refine gX4_56 hO hb dX4_send_44 ?_
  refine r_iload_n (i := 2) hO rfl rfl dX4_send_47 ?_
  refine r_aload_n (i := 0) hO rfl rfl dX4_send_48 ?_
  refine gX4_15 hO hb dX4_send_49 ?_
  refine r_aload_n (i := 1) hO rfl rfl dX4_send_52 ?_
  refine gX4_132 hO hm1 dX4_send_53 ?_
  refine r_iload_n (i := 2) hO rfl rfl dX4_send_56 ?_
  refine r_iald hO (sM_5 hm1) dX4_send_57 ?_
  refine r_iadd hO dX4_send_58 ?_
  refine r_iast hO (sR_7 hb) dX4_send_59 ?_
  refine r_nmW fun σ10 => ?_
  exact r_vret hO hR dX4_send_60
theorem c_X4_send {l : Launch} {G : Gh} {b : Nat} {m1 : Nat} (hb : isR b) (hm1 : isM m1) (a2 : Int32) (a3 : Int32) (σ : Wd) : Con l G yX4_send cX4_send 4 none 2 50 [.ref (G.A b), .ref (G.A m1), .int a2, .int a3] σ (f_X4_send b m1 a2 a3 σ) := Con.of (plainFor_of_name (by decide)) rfl (Nat.le_of_ble_eq_true rfl) (fun K hl hG hO hR => by subst hl; subst hG; exact b_X4_send hO hR hb hm1 a2 a3 σ)
theorem cal_X4_send : CalV yX4_send cX4_send 4 none 3 := ⟨a_169, a_170, a_171, a_149, by decide, by decide, by decide +kernel⟩
theorem k_X4_send {K : Kt} {nL : Nat} {cs : Nat × Nat} {σ : Wd} {pc : Nat} {lv : List (Nat × Value)} {st : List Value} {cc : ByteArray} {own : String} {rm : Room} {index : Nat} {g : Int32 → Wd → Option (Int32 × Wd)} {b : Nat} {m1 : Nat} {a2 : Int32} {a3 : Int32} (hO : Ok K cc own nL rm) (hb : isR b) (hm1 : isM m1) (hl : Cond.methodLink own index yX4_send ∈ gtb) (hcat : Nat.ble ((st.map fun v => v.category).sum) 8 = true) (hR : RoomOk rm cs 2 50 4) (d : decode cc pc = .ok (.invokevirtual index, 3)) (kk : ∀ (r : Int32) (σ : Wd), Cm K nL cs (g r σ) σ (pc + 3) lv st) : Cm K nL cs (bd (f_X4_send b m1 a2 a3 σ) g) σ pc lv (.int a3 :: .int a2 :: .ref (K.G.A m1) :: .ref (K.G.A b) :: st) := r_cVv hO (c_X4_send hb hm1 a2 a3 σ) cal_X4_send hl rfl (isR_lt hb) (ent_X4 hb) rfl rfl hcat hR d kk
/-! OrderSplit_Run.startRound -/
def f_X4_startRound_26 (b : Nat) (m1 : Nat)   (σ : Wd) : Option (Int32 × Wd) := some ((0 : Int32), σ)
def f_X4_startRound_134 (b : Nat) (m1 : Nat) (k85 : Int32 → Int32 → Int32 → Wd → Option (Int32 × Wd)) (x3 : Int32) (x4 : Int32) (x5 : Int32) (σ : Wd) : Option (Int32 × Wd) := (k85 x3 x4 (x5 + (1 : Int32)) σ)
def f_X4_startRound_115 (b : Nat) (m1 : Nat) (k85 : Int32 → Int32 → Int32 → Wd → Option (Int32 × Wd)) (x3 : Int32) (x4 : Int32) (x5 : Int32) (s0 : Int32) (σ : Wd) : Option (Int32 × Wd) := if s0 ≤ 0 then (f_X4_startRound_134 b m1 k85 x3 x4 x5 σ) else (bd (f_X4_send b m1 x5 s0 σ) fun _ σ1 => (f_X4_startRound_134 b m1 k85 x3 (x4 + (1 : Int32)) x5 σ1))
def f_X4_startRound_85 (b : Nat) (m1 : Nat)  : Nat → Int32 → Int32 → Int32 → Wd → Option (Int32 × Wd)
  | 0 => fun _ _ _ _ => none
  | n + 1 => fun x3 x4 x5 σ => if (σ.1 m1 3) ≤ x5 then (some (x4, σ)) else (if x3 = 0 then (gd (inb x5 5) ((f_X4_startRound_115 b m1 (f_X4_startRound_85 b m1 n) x3 x4 x5 (σ.1 5 (ix x5)) σ))) else (gd (inb x5 5) ((f_X4_startRound_115 b m1 (f_X4_startRound_85 b m1 n) x3 x4 x5 (σ.1 (m1 + 7) (ix x5)) σ))))
def f_X4_startRound_69 (b : Nat) (m1 : Nat)  (x3 : Int32) (σ : Wd) : Option (Int32 × Wd) := nmW (wi σ b 6 ((σ.1 b 6) + (1 : Int32))) fun σ1 => (f_X4_startRound_85 b m1 FU x3 (0 : Int32) (0 : Int32) σ1)
def f_X4_startRound_54 (b : Nat) (m1 : Nat)  (s0 : Int32) (σ : Wd) : Option (Int32 × Wd) := if s0 = 0 then (bd (f_X1_choose m1 (σ.1 b 2) (-1 : Int32) σ) fun _ σ1 => (f_X4_startRound_69 b m1 s0 σ1)) else (f_X4_startRound_69 b m1 s0 σ)
def f_X4_startRound_53 (b : Nat) (m1 : Nat)   (σ : Wd) : Option (Int32 × Wd) := (f_X4_startRound_54 b m1 (0 : Int32) σ)
def f_X4_startRound (b : Nat) (m1 : Nat) (σ : Wd) : Option (Int32 × Wd) := bd (f_X4_nothingUnderWay b m1 σ) fun r1 σ2 => if r1 = 0 then (f_X4_startRound_26 b m1 σ2) else (if (σ2.1 b 2) = 0 then (f_X4_startRound_26 b m1 σ2) else (bd (f_X3_hasLotWithin m1 (σ2.1 b 2) σ2) fun r3 σ4 => if r3 = 0 then (f_X4_startRound_26 b m1 σ4) else (if (σ4.1 b 6) = 0 then (bd (f_X3_planUnits m1 σ4) fun r5 σ6 => if r5 ≤ 0 then (f_X4_startRound_53 b m1 σ6) else (bd (f_X3_planStands m1 σ6) fun r7 σ8 => if r7 = 0 then (f_X4_startRound_53 b m1 σ8) else (f_X4_startRound_54 b m1 (1 : Int32) σ8))) else (f_X4_startRound_53 b m1 σ4))))
set_option maxRecDepth 20000 in
set_option maxHeartbeats 1000000 in
theorem b_X4_startRound_26 {K : Kt} {b : Nat} {m1 : Nat}  (hO : Ok K cX4_startRound RX4 7 rm_X4_startRound) (hR : Rt K (some .int)) (hb : isR b) (hm1 : isM m1)   (σ : Wd)  : Cm K 7 (0, 0) (f_X4_startRound_26 b m1  σ) σ 26 [] [] := by
  refine r_iconst hO ci_0 dX4_startRound_26 ?_
  exact r_iret hO hR dX4_startRound_27
set_option maxRecDepth 20000 in
set_option maxHeartbeats 1000000 in
theorem b_X4_startRound_134 {K : Kt} {b : Nat} {m1 : Nat} {k85 : Int32 → Int32 → Int32 → Wd → Option (Int32 × Wd)} (hO : Ok K cX4_startRound RX4 7 rm_X4_startRound) (hR : Rt K (some .int)) (hb : isR b) (hm1 : isM m1)  (hk85 : ∀ (x3 : Int32) (x4 : Int32) (x5 : Int32) (σ : Wd), Cm K 7 (0, 0) (k85 x3 x4 x5 σ) σ 85 [(0, .ref (K.G.A b)), (1, .ref (K.G.A m1)), (2, .ref (K.G.A 4)), (3, .int x3), (4, .int x4), (5, .int x5)] []) (x3 : Int32) (x4 : Int32) (x5 : Int32) (σ : Wd)  : Cm K 7 (0, 0) (f_X4_startRound_134 b m1 k85 x3 x4 x5 σ) σ 134 [(0, .ref (K.G.A b)), (1, .ref (K.G.A m1)), (2, .ref (K.G.A 4)), (3, .int x3), (4, .int x4), (5, .int x5)] [] := by
  refine r_iinc hO rfl ci_1 rfl rfl dX4_startRound_134 ?_
  refine r_goto (tgt := 85) hO dX4_startRound_137 (by decide) ?_
  exact r_jmp (hk85 x3 x4 (x5 + (1 : Int32)) σ) (lsub_c rfl (lsub_c rfl (lsub_c rfl (lsub_c rfl (lsub_c rfl (lsub_c rfl lsub_n))))))
set_option maxRecDepth 20000 in
set_option maxHeartbeats 1000000 in
theorem b_X4_startRound_115 {K : Kt} {b : Nat} {m1 : Nat} {k85 : Int32 → Int32 → Int32 → Wd → Option (Int32 × Wd)} (hO : Ok K cX4_startRound RX4 7 rm_X4_startRound) (hR : Rt K (some .int)) (hb : isR b) (hm1 : isM m1)  (hk85 : ∀ (x3 : Int32) (x4 : Int32) (x5 : Int32) (σ : Wd), Cm K 7 (0, 0) (k85 x3 x4 x5 σ) σ 85 [(0, .ref (K.G.A b)), (1, .ref (K.G.A m1)), (2, .ref (K.G.A 4)), (3, .int x3), (4, .int x4), (5, .int x5)] []) (x3 : Int32) (x4 : Int32) (x5 : Int32) (s0 : Int32) (σ : Wd)  : Cm K 7 (0, 0) (f_X4_startRound_115 b m1 k85 x3 x4 x5 s0 σ) σ 115 [(0, .ref (K.G.A b)), (1, .ref (K.G.A m1)), (2, .ref (K.G.A 4)), (3, .int x3), (4, .int x4), (5, .int x5)] [.int s0] := by
  refine r_istore hO rfl rfl dX4_startRound_115 ?_
  refine r_iload hO (d := dX4_startRound_117) rfl ?_
  refine r_if_le (tgt := 134) hO dX4_startRound_119 (by decide) ?_ ?_
  · exact r_jmp (b_X4_startRound_134 hO hR hb hm1 hk85 x3 x4 x5 σ) (lsub_c rfl (lsub_c rfl (lsub_c rfl (lsub_c rfl (lsub_c rfl (lsub_c rfl lsub_n))))))
  · refine r_aload_n (i := 0) hO rfl rfl dX4_startRound_122 ?_
    refine r_aload_n (i := 1) hO rfl rfl dX4_startRound_123 ?_
    refine r_iload hO (d := dX4_startRound_124) rfl ?_
    refine r_iload hO (d := dX4_startRound_126) rfl ?_
    refine k_X4_send hO hb hm1 a_175 rfl ⟨rfl, rfl, Nat.le_refl _, Nat.le_refl _⟩ dX4_startRound_128 ?_
    intro _ σ1
    refine r_iinc hO rfl ci_1 rfl rfl dX4_startRound_131 ?_
    exact r_jmp (b_X4_startRound_134 hO hR hb hm1 hk85 x3 (x4 + (1 : Int32)) x5 σ1) (lsub_c rfl (lsub_c rfl (lsub_c rfl (lsub_c rfl (lsub_c rfl (lsub_c rfl lsub_n))))))
set_option maxRecDepth 20000 in
set_option maxHeartbeats 1000000 in
theorem b_X4_startRound_85 {K : Kt} {b : Nat} {m1 : Nat}  (hO : Ok K cX4_startRound RX4 7 rm_X4_startRound) (hR : Rt K (some .int)) (hb : isR b) (hm1 : isM m1)  : ∀ (n : Nat) (x3 : Int32) (x4 : Int32) (x5 : Int32) (σ : Wd) , Cm K 7 (0, 0) (f_X4_startRound_85 b m1 n x3 x4 x5 σ) σ 85 [(0, .ref (K.G.A b)), (1, .ref (K.G.A m1)), (2, .ref (K.G.A 4)), (3, .int x3), (4, .int x4), (5, .int x5)] [] := by
  intro n
  induction n with
  | zero => intro x3 x4 x5 σ ; exact r_none
  | succ n ih =>
    intro x3 x4 x5 σ 
    refine r_iload hO (d := dX4_startRound_85) rfl ?_
    refine r_aload_n (i := 1) hO rfl rfl dX4_startRound_87 ?_
    refine gX4_86 hO hm1 dX4_startRound_88 ?_
    refine r_icmp_ge (tgt := 140) hO dX4_startRound_91 (by decide) ?_ ?_
    · refine r_iload hO (d := dX4_startRound_140) rfl ?_
      exact r_iret hO hR dX4_startRound_142
    · refine r_iload_n (i := 3) hO rfl rfl dX4_startRound_94 ?_
      refine r_if_eq (tgt := 108) hO dX4_startRound_95 (by decide) ?_ ?_
      · refine r_aload_n (i := 2) hO rfl rfl dX4_startRound_108 ?_
        refine gX4_119 hO dX4_startRound_109 ?_
        refine r_iload hO (d := dX4_startRound_112) rfl ?_
        refine r_iald hO s_5 dX4_startRound_114 ?_
        exact r_jmp (b_X4_startRound_115 hO hR hb hm1 ih x3 x4 x5 (σ.1 5 (ix x5)) σ) (lsub_c rfl (lsub_c rfl (lsub_c rfl (lsub_c rfl (lsub_c rfl (lsub_c rfl lsub_n))))))
      · refine r_aload_n (i := 1) hO rfl rfl dX4_startRound_98 ?_
        refine gX4_116 hO hm1 dX4_startRound_99 ?_
        refine r_iload hO (d := dX4_startRound_102) rfl ?_
        refine r_iald hO (sM_7 hm1) dX4_startRound_104 ?_
        refine r_goto (tgt := 115) hO dX4_startRound_105 (by decide) ?_
        exact r_jmp (b_X4_startRound_115 hO hR hb hm1 ih x3 x4 x5 (σ.1 (m1 + 7) (ix x5)) σ) (lsub_c rfl (lsub_c rfl (lsub_c rfl (lsub_c rfl (lsub_c rfl (lsub_c rfl lsub_n))))))
set_option maxRecDepth 20000 in
set_option maxHeartbeats 1000000 in
theorem b_X4_startRound_69 {K : Kt} {b : Nat} {m1 : Nat}  (hO : Ok K cX4_startRound RX4 7 rm_X4_startRound) (hR : Rt K (some .int)) (hb : isR b) (hm1 : isM m1)  (x3 : Int32) (σ : Wd)  : Cm K 7 (0, 0) (f_X4_startRound_69 b m1 x3 σ) σ 69 [(0, .ref (K.G.A b)), (1, .ref (K.G.A m1)), (2, .ref (K.G.A 4)), (3, .int x3)] [] := by
  refine r_aload_n (i := 0) hO rfl rfl dX4_startRound_69 ?_
  refine r_dup hO rfl dX4_startRound_70 ?_
  refine gX4_31 hO hb dX4_startRound_71 ?_
  refine r_iconst hO ci_1 dX4_startRound_74 ?_
  refine r_iadd hO dX4_startRound_75 ?_
  refine pX4_31 hO hb dX4_startRound_76 ?_
  refine r_nmW fun σ1 => ?_
  refine r_iconst hO ci_0 dX4_startRound_79 ?_
  refine r_istore hO rfl rfl dX4_startRound_80 ?_
  refine r_iconst hO ci_0 dX4_startRound_82 ?_
  refine r_istore hO rfl rfl dX4_startRound_83 ?_
  exact r_jmp (b_X4_startRound_85 hO hR hb hm1 FU x3 (0 : Int32) (0 : Int32) σ1) (lsub_c rfl (lsub_c rfl (lsub_c rfl (lsub_c rfl (lsub_c rfl (lsub_c rfl lsub_n))))))
set_option maxRecDepth 20000 in
set_option maxHeartbeats 1000000 in
theorem b_X4_startRound_54 {K : Kt} {b : Nat} {m1 : Nat}  (hO : Ok K cX4_startRound RX4 7 rm_X4_startRound) (hR : Rt K (some .int)) (hb : isR b) (hm1 : isM m1)  (s0 : Int32) (σ : Wd)  : Cm K 7 (0, 0) (f_X4_startRound_54 b m1 s0 σ) σ 54 [(0, .ref (K.G.A b)), (1, .ref (K.G.A m1)), (2, .ref (K.G.A 4))] [.int s0] := by
  refine r_istore_n (i := 3) hO rfl rfl rfl dX4_startRound_54 ?_
  refine r_iload_n (i := 3) hO rfl rfl dX4_startRound_55 ?_
  refine r_if_ne (tgt := 69) hO dX4_startRound_56 (by decide) ?_ ?_
  · refine r_aload_n (i := 2) hO rfl rfl dX4_startRound_59 ?_
    refine r_aload_n (i := 1) hO rfl rfl dX4_startRound_60 ?_
    refine r_aload_n (i := 0) hO rfl rfl dX4_startRound_61 ?_
    refine gX4_19 hO hb dX4_startRound_62 ?_
    refine r_iconst hO ci_m1 dX4_startRound_65 ?_
    refine k_X1_choose hO hm1 a_174 rfl ⟨rfl, rfl, Nat.le_refl _, Nat.le_refl _⟩ dX4_startRound_66 ?_
    intro _ σ1
    exact r_jmp (b_X4_startRound_69 hO hR hb hm1 s0 σ1) (lsub_c rfl (lsub_c rfl (lsub_c rfl (lsub_c rfl lsub_n))))
  · exact r_jmp (b_X4_startRound_69 hO hR hb hm1 s0 σ) (lsub_c rfl (lsub_c rfl (lsub_c rfl (lsub_c rfl lsub_n))))
set_option maxRecDepth 20000 in
set_option maxHeartbeats 1000000 in
theorem b_X4_startRound_53 {K : Kt} {b : Nat} {m1 : Nat}  (hO : Ok K cX4_startRound RX4 7 rm_X4_startRound) (hR : Rt K (some .int)) (hb : isR b) (hm1 : isM m1)   (σ : Wd)  : Cm K 7 (0, 0) (f_X4_startRound_53 b m1  σ) σ 53 [(0, .ref (K.G.A b)), (1, .ref (K.G.A m1)), (2, .ref (K.G.A 4))] [] := by
  refine r_iconst hO ci_0 dX4_startRound_53 ?_
  exact r_jmp (b_X4_startRound_54 hO hR hb hm1 (0 : Int32) σ) (lsub_c rfl (lsub_c rfl (lsub_c rfl lsub_n)))
set_option maxRecDepth 20000 in
set_option maxHeartbeats 1000000 in
theorem b_X4_startRound {K : Kt} {b : Nat} {m1 : Nat} (hO : Ok K cX4_startRound RX4 7 rm_X4_startRound) (hR : Rt K (some .int)) (hb : isR b) (hm1 : isM m1)  (σ : Wd) : Cm K 7 (0, 0) (f_X4_startRound b m1 σ) σ 0 [(0, .ref (K.G.A b)), (1, .ref (K.G.A m1)), (2, .ref (K.G.A 4))] [] := by
  refine r_aload_n (i := 0) hO rfl rfl dX4_startRound_0 ?_
  refine r_aload_n (i := 1) hO rfl rfl dX4_startRound_1 ?_
  refine k_X4_nothingUnderWay hO hb hm1 a_162 rfl ⟨rfl, rfl, Nat.le_refl _, Nat.le_refl _⟩ dX4_startRound_2 ?_
  intro r1 σ2
  refine r_if_eq (tgt := 26) hO dX4_startRound_5 (by decide) ?_ ?_
  · exact r_jmp (b_X4_startRound_26 hO hR hb hm1 σ2) lsub_n
  · refine r_aload_n (i := 0) hO rfl rfl dX4_startRound_8 ?_
    refine gX4_19 hO hb dX4_startRound_9 ?_
    refine r_if_eq (tgt := 26) hO dX4_startRound_12 (by decide) ?_ ?_
    · exact r_jmp (b_X4_startRound_26 hO hR hb hm1 σ2) lsub_n
    · refine r_aload_n (i := 1) hO rfl rfl dX4_startRound_15 ?_
      refine r_aload_n (i := 0) hO rfl rfl dX4_startRound_16 ?_
      refine gX4_19 hO hb dX4_startRound_17 ?_
      refine k_X3_hasLotWithin hO hm1 a_163 rfl ⟨rfl, rfl, Nat.le_refl _, Nat.le_refl _⟩ dX4_startRound_20 ?_
      intro r3 σ4
      refine r_if_ne (tgt := 28) hO dX4_startRound_23 (by decide) ?_ ?_
      · exact r_jmp (b_X4_startRound_26 hO hR hb hm1 σ4) lsub_n
      · refine r_aload_n (i := 0) hO rfl rfl dX4_startRound_28 ?_
        refine gX4_31 hO hb dX4_startRound_29 ?_
        refine r_if_ne (tgt := 53) hO dX4_startRound_32 (by decide) ?_ ?_
        · refine r_aload_n (i := 1) hO rfl rfl dX4_startRound_35 ?_
          refine k_X3_planUnits hO hm1 a_172 rfl ⟨rfl, rfl, Nat.le_refl _, Nat.le_refl _⟩ dX4_startRound_36 ?_
          intro r5 σ6
          refine r_if_le (tgt := 53) hO dX4_startRound_39 (by decide) ?_ ?_
          · exact r_jmp (b_X4_startRound_53 hO hR hb hm1 σ6) (lsub_c rfl (lsub_c rfl (lsub_c rfl lsub_n)))
          · refine r_aload_n (i := 1) hO rfl rfl dX4_startRound_42 ?_
            refine k_X3_planStands hO hm1 a_173 rfl ⟨rfl, rfl, Nat.le_refl _, Nat.le_refl _⟩ dX4_startRound_43 ?_
            intro r7 σ8
            refine r_if_eq (tgt := 53) hO dX4_startRound_46 (by decide) ?_ ?_
            · exact r_jmp (b_X4_startRound_53 hO hR hb hm1 σ8) (lsub_c rfl (lsub_c rfl (lsub_c rfl lsub_n)))
            · refine r_iconst hO ci_1 dX4_startRound_49 ?_
              refine r_goto (tgt := 54) hO dX4_startRound_50 (by decide) ?_
              exact r_jmp (b_X4_startRound_54 hO hR hb hm1 (1 : Int32) σ8) (lsub_c rfl (lsub_c rfl (lsub_c rfl lsub_n)))
        · exact r_jmp (b_X4_startRound_53 hO hR hb hm1 σ4) (lsub_c rfl (lsub_c rfl (lsub_c rfl lsub_n)))
theorem c_X4_startRound {l : Launch} {G : Gh} {b : Nat} {m1 : Nat} (hb : isR b) (hm1 : isM m1)  (σ : Wd) : Con l G yX4_startRound cX4_startRound 7 (some .int) 4 103 [.ref (G.A b), .ref (G.A m1), .ref (G.A 4)] σ (f_X4_startRound b m1 σ) := Con.of (plainFor_of_name (by decide)) rfl (Nat.le_of_ble_eq_true rfl) (fun K hl hG hO hR => by subst hl; subst hG; exact b_X4_startRound hO hR hb hm1  σ)
theorem cal_X4_startRound : CalV yX4_startRound cX4_startRound 7 (some .int) 2 := ⟨a_176, a_177, a_178, a_149, by decide, by decide, by decide +kernel⟩
theorem k_X4_startRound {K : Kt} {nL : Nat} {cs : Nat × Nat} {σ : Wd} {pc : Nat} {lv : List (Nat × Value)} {st : List Value} {cc : ByteArray} {own : String} {rm : Room} {index : Nat} {g : Int32 → Wd → Option (Int32 × Wd)} {b : Nat} {m1 : Nat} (hO : Ok K cc own nL rm) (hb : isR b) (hm1 : isM m1) (hl : Cond.methodLink own index yX4_startRound ∈ gtb) (hcat : Nat.ble ((st.map fun v => v.category).sum) 8 = true) (hR : RoomOk rm cs 4 103 7) (d : decode cc pc = .ok (.invokevirtual index, 3)) (kk : ∀ (r : Int32) (σ : Wd), Cm K nL cs (g r σ) σ (pc + 3) lv (.int r :: st)) : Cm K nL cs (bd (f_X4_startRound b m1 σ) g) σ pc lv (.ref (K.G.A 4) :: .ref (K.G.A m1) :: .ref (K.G.A b) :: st) := r_cVi hO (c_X4_startRound hb hm1  σ) cal_X4_startRound hl rfl (isR_lt hb) (ent_X4 hb) rfl rfl hcat hR d kk
/-! OrderSplit_Run.buy -/
def f_X4_buy_208 (b : Nat) (m1 : Nat) (k57 : Int32 → Int32 → Int32 → Wd → Option (Int32 × Wd)) (x2 : Int32) (x5 : Int32) (x6 : Int32) (σ : Wd) : Option (Int32 × Wd) := (k57 x2 x5 (x6 + (1 : Int32)) σ)
def f_X4_buy_105 (b : Nat) (m1 : Nat) (k57 : Int32 → Int32 → Int32 → Wd → Option (Int32 × Wd)) (x2 : Int32) (x5 : Int32) (x6 : Int32) (x7 : Int32) (s0 : Int32) (σ : Wd) : Option (Int32 × Wd) := if s0 ≤ 0 then (f_X4_buy_208 b m1 k57 x2 x5 x6 σ) else (gd (inb x7 30) (gd (inb x7 30) (nmW (wi σ (m1 + 9) (ix x7) ((σ.1 (m1 + 9) (ix x7)) - s0)) fun σ1 => gd (inb x2 5) (gd (inb x2 5) (nmW (wi σ1 (b + 3) (ix x2) ((σ1.1 (b + 3) (ix x2)) + s0)) fun σ2 => nmW (wi σ2 b 3 ((σ2.1 b 3) + s0)) fun σ3 => gd (inb x2 5) (gd (inb x7 30) (gd (inb x2 5) (nmW (wi σ3 (b + 4) (ix x2) ((σ3.1 (b + 4) (ix x2)) + (s0 * (σ3.1 (m1 + 8) (ix x7))))) fun σ4 => gd (inb x7 30) (nmW (wi σ4 b 4 ((σ4.1 b 4) + (s0 * (σ4.1 (m1 + 8) (ix x7))))) fun σ5 => gd (inb x7 30) (bd (f_X2_note (b + 9) x2 (σ5.1 (m1 + 8) (ix x7)) s0 σ5) fun _ σ6 => (f_X4_buy_208 b m1 k57 x2 (x5 - s0) x6 σ6)))))))))))
def f_X4_buy_214 (b : Nat) (m1 : Nat)   (σ : Wd) : Option (Int32 × Wd) := some (0, σ)
def f_X4_buy_57 (b : Nat) (m1 : Nat)  : Nat → Int32 → Int32 → Int32 → Wd → Option (Int32 × Wd)
  | 0 => fun _ _ _ _ => none
  | n + 1 => fun x2 x5 x6 σ => gd (inb x2 5) (if (σ.1 (m1 + 6) (ix x2)) ≤ x6 then (f_X4_buy_214 b m1 σ) else (if x5 ≤ 0 then (f_X4_buy_214 b m1 σ) else (bd (f_X6_slot x2 x6 σ) fun r1 σ2 => gd (inb r1 30) (if x5 ≤ (σ2.1 (m1 + 9) (ix r1)) then (f_X4_buy_105 b m1 (f_X4_buy_57 b m1 n) x2 x5 x6 r1 x5 σ2) else (gd (inb r1 30) ((f_X4_buy_105 b m1 (f_X4_buy_57 b m1 n) x2 x5 x6 r1 (σ2.1 (m1 + 9) (ix r1)) σ2)))))))
def f_X4_buy_39 (b : Nat) (m1 : Nat)  (x2 : Int32) (s0 : Int32) (σ : Wd) : Option (Int32 × Wd) := bd (f_X3_lotOf m1 x2 σ) fun r1 σ2 => gd (!decide (r1 = 0)) ((f_X4_buy_57 b m1 FU x2 (s0 - (s0 % r1)) (0 : Int32) σ2))
def f_X4_buy (b : Nat) (m1 : Nat) (a2 : Int32) (σ : Wd) : Option (Int32 × Wd) := gd (inb a2 5) (bd (f_X3_unitsUpTo m1 a2 (σ.1 (b + 6) (ix a2)) σ) fun r1 σ2 => gd (inb a2 5) (gd (inb a2 5) (if ((σ2.1 (b + 2) (ix a2)) - (σ2.1 (b + 3) (ix a2))) ≤ r1 then (f_X4_buy_39 b m1 a2 ((σ2.1 (b + 2) (ix a2)) - (σ2.1 (b + 3) (ix a2))) σ2) else (f_X4_buy_39 b m1 a2 r1 σ2))))
set_option maxRecDepth 20000 in
set_option maxHeartbeats 1000000 in
theorem b_X4_buy_208 {K : Kt} {b : Nat} {m1 : Nat} {k57 : Int32 → Int32 → Int32 → Wd → Option (Int32 × Wd)} (hO : Ok K cX4_buy RX4 9 rm_X4_buy) (hR : Rt K none) (hb : isR b) (hm1 : isM m1)  (hk57 : ∀ (x2 : Int32) (x5 : Int32) (x6 : Int32) (σ : Wd), Cm K 9 (0, 0) (k57 x2 x5 x6 σ) σ 57 [(0, .ref (K.G.A b)), (1, .ref (K.G.A m1)), (2, .int x2), (5, .int x5), (6, .int x6)] []) (x2 : Int32) (x5 : Int32) (x6 : Int32) (σ : Wd)  : Cm K 9 (0, 0) (f_X4_buy_208 b m1 k57 x2 x5 x6 σ) σ 208 [(0, .ref (K.G.A b)), (1, .ref (K.G.A m1)), (2, .int x2), (5, .int x5), (6, .int x6)] [] := by
  refine r_iinc hO rfl ci_1 rfl rfl dX4_buy_208 ?_
  refine r_goto (tgt := 57) hO dX4_buy_211 (by decide) ?_
  exact r_jmp (hk57 x2 x5 (x6 + (1 : Int32)) σ) (lsub_c rfl (lsub_c rfl (lsub_c rfl (lsub_c rfl (lsub_c rfl lsub_n)))))
set_option maxRecDepth 20000 in
set_option maxHeartbeats 1000000 in
theorem b_X4_buy_105 {K : Kt} {b : Nat} {m1 : Nat} {k57 : Int32 → Int32 → Int32 → Wd → Option (Int32 × Wd)} (hO : Ok K cX4_buy RX4 9 rm_X4_buy) (hR : Rt K none) (hb : isR b) (hm1 : isM m1)  (hk57 : ∀ (x2 : Int32) (x5 : Int32) (x6 : Int32) (σ : Wd), Cm K 9 (0, 0) (k57 x2 x5 x6 σ) σ 57 [(0, .ref (K.G.A b)), (1, .ref (K.G.A m1)), (2, .int x2), (5, .int x5), (6, .int x6)] []) (x2 : Int32) (x5 : Int32) (x6 : Int32) (x7 : Int32) (s0 : Int32) (σ : Wd)  : Cm K 9 (0, 0) (f_X4_buy_105 b m1 k57 x2 x5 x6 x7 s0 σ) σ 105 [(0, .ref (K.G.A b)), (1, .ref (K.G.A m1)), (2, .int x2), (5, .int x5), (6, .int x6), (7, .int x7)] [.int s0] := by
  refine r_istore hO rfl rfl dX4_buy_105 ?_
  refine r_iload hO (d := dX4_buy_107) rfl ?_
  refine r_if_le (tgt := 208) hO dX4_buy_109 (by decide) ?_ ?_
  · exact r_jmp (b_X4_buy_208 hO hR hb hm1 hk57 x2 x5 x6 σ) (lsub_c rfl (lsub_c rfl (lsub_c rfl (lsub_c rfl (lsub_c rfl lsub_n)))))
  · refine r_iload hO (d := dX4_buy_112) rfl ?_
    refine r_iload hO (d := dX4_buy_114) rfl ?_
    refine r_isub hO dX4_buy_116 ?_
    refine r_istore hO rfl rfl dX4_buy_117 ?_
    refine r_aload_n (i := 1) hO rfl rfl dX4_buy_119 ?_
    refine gX4_138 hO hm1 dX4_buy_120 ?_
    refine r_iload hO (d := dX4_buy_123) rfl ?_
    refine r_dup2 hO rfl rfl dX4_buy_125 ?_
    refine r_iald hO (sM_9 hm1) dX4_buy_126 ?_
    refine r_iload hO (d := dX4_buy_127) rfl ?_
    refine r_isub hO dX4_buy_129 ?_
    refine r_iast hO (sM_9 hm1) dX4_buy_130 ?_
    refine r_nmW fun σ1 => ?_
    refine r_aload_n (i := 0) hO rfl rfl dX4_buy_131 ?_
    refine gX4_44 hO hb dX4_buy_132 ?_
    refine r_iload_n (i := 2) hO rfl rfl dX4_buy_135 ?_
    refine r_dup2 hO rfl rfl dX4_buy_136 ?_
    refine r_iald hO (sR_3 hb) dX4_buy_137 ?_
    refine r_iload hO (d := dX4_buy_138) rfl ?_
    refine r_iadd hO dX4_buy_140 ?_
    refine r_iast hO (sR_3 hb) dX4_buy_141 ?_
    refine r_nmW fun σ2 => ?_
    refine r_aload_n (i := 0) hO rfl rfl dX4_buy_142 ?_
    refine r_dup hO rfl dX4_buy_143 ?_
    refine gX4_22 hO hb dX4_buy_144 ?_
    refine r_iload hO (d := dX4_buy_147) rfl ?_
    refine r_iadd hO dX4_buy_149 ?_
    refine pX4_22 hO hb dX4_buy_150 ?_
    refine r_nmW fun σ3 => ?_
    refine r_aload_n (i := 0) hO rfl rfl dX4_buy_153 ?_
    refine gX4_47 hO hb dX4_buy_154 ?_
    refine r_iload_n (i := 2) hO rfl rfl dX4_buy_157 ?_
    refine r_dup2 hO rfl rfl dX4_buy_158 ?_
    refine r_iald hO (sR_4 hb) dX4_buy_159 ?_
    refine r_iload hO (d := dX4_buy_160) rfl ?_
    refine r_aload_n (i := 1) hO rfl rfl dX4_buy_162 ?_
    refine gX4_177 hO hm1 dX4_buy_163 ?_
    refine r_iload hO (d := dX4_buy_166) rfl ?_
    refine r_iald hO (sM_8 hm1) dX4_buy_168 ?_
    refine r_imul hO dX4_buy_169 ?_
    refine r_iadd hO dX4_buy_170 ?_
    refine r_iast hO (sR_4 hb) dX4_buy_171 ?_
    refine r_nmW fun σ4 => ?_
    refine r_aload_n (i := 0) hO rfl rfl dX4_buy_172 ?_
    refine r_dup hO rfl dX4_buy_173 ?_
    refine gX4_25 hO hb dX4_buy_174 ?_
    refine r_iload hO (d := dX4_buy_177) rfl ?_
    refine r_aload_n (i := 1) hO rfl rfl dX4_buy_179 ?_
    refine gX4_177 hO hm1 dX4_buy_180 ?_
    refine r_iload hO (d := dX4_buy_183) rfl ?_
    refine r_iald hO (sM_8 hm1) dX4_buy_185 ?_
    refine r_imul hO dX4_buy_186 ?_
    refine r_iadd hO dX4_buy_187 ?_
    refine pX4_25 hO hb dX4_buy_188 ?_
    refine r_nmW fun σ5 => ?_
    refine r_aload_n (i := 0) hO rfl rfl dX4_buy_191 ?_
    refine gX4_65 hO hb dX4_buy_192 ?_
    refine r_iload_n (i := 2) hO rfl rfl dX4_buy_195 ?_
    refine r_aload_n (i := 1) hO rfl rfl dX4_buy_196 ?_
    refine gX4_177 hO hm1 dX4_buy_197 ?_
    refine r_iload hO (d := dX4_buy_200) rfl ?_
    refine r_iald hO (sM_8 hm1) dX4_buy_202 ?_
    refine r_iload hO (d := dX4_buy_203) rfl ?_
    refine k_X2_note hO (isR_L hb) a_182 rfl ⟨rfl, rfl, Nat.le_refl _, Nat.le_refl _⟩ dX4_buy_205 ?_
    intro _ σ6
    exact r_jmp (b_X4_buy_208 hO hR hb hm1 hk57 x2 (x5 - s0) x6 σ6) (lsub_c rfl (lsub_c rfl (lsub_c rfl (lsub_c rfl (lsub_c rfl lsub_n)))))
set_option maxRecDepth 20000 in
set_option maxHeartbeats 1000000 in
theorem b_X4_buy_214 {K : Kt} {b : Nat} {m1 : Nat}  (hO : Ok K cX4_buy RX4 9 rm_X4_buy) (hR : Rt K none) (hb : isR b) (hm1 : isM m1)   (σ : Wd)  : Cm K 9 (0, 0) (f_X4_buy_214 b m1  σ) σ 214 [] [] := by
  exact r_vret hO hR dX4_buy_214
set_option maxRecDepth 20000 in
set_option maxHeartbeats 1000000 in
theorem b_X4_buy_57 {K : Kt} {b : Nat} {m1 : Nat}  (hO : Ok K cX4_buy RX4 9 rm_X4_buy) (hR : Rt K none) (hb : isR b) (hm1 : isM m1)  : ∀ (n : Nat) (x2 : Int32) (x5 : Int32) (x6 : Int32) (σ : Wd) , Cm K 9 (0, 0) (f_X4_buy_57 b m1 n x2 x5 x6 σ) σ 57 [(0, .ref (K.G.A b)), (1, .ref (K.G.A m1)), (2, .int x2), (5, .int x5), (6, .int x6)] [] := by
  intro n
  induction n with
  | zero => intro x2 x5 x6 σ ; exact r_none
  | succ n ih =>
    intro x2 x5 x6 σ 
    refine r_iload hO (d := dX4_buy_57) rfl ?_
    refine r_aload_n (i := 1) hO rfl rfl dX4_buy_59 ?_
    refine gX4_171 hO hm1 dX4_buy_60 ?_
    refine r_iload_n (i := 2) hO rfl rfl dX4_buy_63 ?_
    refine r_iald hO (sM_6 hm1) dX4_buy_64 ?_
    refine r_icmp_ge (tgt := 214) hO dX4_buy_65 (by decide) ?_ ?_
    · exact r_jmp (b_X4_buy_214 hO hR hb hm1 σ) lsub_n
    · refine r_iload hO (d := dX4_buy_68) rfl ?_
      refine r_if_le (tgt := 214) hO dX4_buy_70 (by decide) ?_ ?_
      · exact r_jmp (b_X4_buy_214 hO hR hb hm1 σ) lsub_n
      · refine r_iload_n (i := 2) hO rfl rfl dX4_buy_73 ?_
        refine r_iload hO (d := dX4_buy_74) rfl ?_
        refine kN_X6_slot hO a_181 rfl ⟨rfl, rfl, Nat.le_refl _, Nat.le_refl _⟩ dX4_buy_76 ?_
        intro r1 σ2
        refine r_istore hO rfl rfl dX4_buy_79 ?_
        refine r_aload_n (i := 1) hO rfl rfl dX4_buy_81 ?_
        refine gX4_138 hO hm1 dX4_buy_82 ?_
        refine r_iload hO (d := dX4_buy_85) rfl ?_
        refine r_iald hO (sM_9 hm1) dX4_buy_87 ?_
        refine r_iload hO (d := dX4_buy_88) rfl ?_
        refine r_icmp_ge (tgt := 103) hO dX4_buy_90 (by decide) ?_ ?_
        · refine r_iload hO (d := dX4_buy_103) rfl ?_
          exact r_jmp (b_X4_buy_105 hO hR hb hm1 ih x2 x5 x6 r1 x5 σ2) (lsub_c rfl (lsub_c rfl (lsub_c rfl (lsub_c rfl (lsub_c rfl (lsub_c rfl lsub_n))))))
        · refine r_aload_n (i := 1) hO rfl rfl dX4_buy_93 ?_
          refine gX4_138 hO hm1 dX4_buy_94 ?_
          refine r_iload hO (d := dX4_buy_97) rfl ?_
          refine r_iald hO (sM_9 hm1) dX4_buy_99 ?_
          refine r_goto (tgt := 105) hO dX4_buy_100 (by decide) ?_
          exact r_jmp (b_X4_buy_105 hO hR hb hm1 ih x2 x5 x6 r1 (σ2.1 (m1 + 9) (ix r1)) σ2) (lsub_c rfl (lsub_c rfl (lsub_c rfl (lsub_c rfl (lsub_c rfl (lsub_c rfl lsub_n))))))
set_option maxRecDepth 20000 in
set_option maxHeartbeats 1000000 in
theorem b_X4_buy_39 {K : Kt} {b : Nat} {m1 : Nat}  (hO : Ok K cX4_buy RX4 9 rm_X4_buy) (hR : Rt K none) (hb : isR b) (hm1 : isM m1)  (x2 : Int32) (s0 : Int32) (σ : Wd)  : Cm K 9 (0, 0) (f_X4_buy_39 b m1 x2 s0 σ) σ 39 [(0, .ref (K.G.A b)), (1, .ref (K.G.A m1)), (2, .int x2)] [.int s0] := by
  refine r_istore hO rfl rfl dX4_buy_39 ?_
  refine r_iload hO (d := dX4_buy_41) rfl ?_
  refine r_iload hO (d := dX4_buy_43) rfl ?_
  refine r_aload_n (i := 1) hO rfl rfl dX4_buy_45 ?_
  refine r_iload_n (i := 2) hO rfl rfl dX4_buy_46 ?_
  refine k_X3_lotOf hO hm1 a_180 rfl ⟨rfl, rfl, Nat.le_refl _, Nat.le_refl _⟩ dX4_buy_47 ?_
  intro r1 σ2
  refine r_irem hO dX4_buy_50 ?_
  refine r_isub hO dX4_buy_51 ?_
  refine r_istore hO rfl rfl dX4_buy_52 ?_
  refine r_iconst hO ci_0 dX4_buy_54 ?_
  refine r_istore hO rfl rfl dX4_buy_55 ?_
  exact r_jmp (b_X4_buy_57 hO hR hb hm1 FU x2 (s0 - (s0 % r1)) (0 : Int32) σ2) (lsub_c rfl (lsub_c rfl (lsub_c rfl (lsub_c rfl (lsub_c rfl lsub_n)))))
set_option maxRecDepth 20000 in
set_option maxHeartbeats 1000000 in
theorem b_X4_buy {K : Kt} {b : Nat} {m1 : Nat} (hO : Ok K cX4_buy RX4 9 rm_X4_buy) (hR : Rt K none) (hb : isR b) (hm1 : isM m1) (a2 : Int32) (σ : Wd) : Cm K 9 (0, 0) (f_X4_buy b m1 a2 σ) σ 0 [(0, .ref (K.G.A b)), (1, .ref (K.G.A m1)), (2, .int a2)] [] := by
  refine r_aload_n (i := 1) hO rfl rfl dX4_buy_0 ?_
  refine r_iload_n (i := 2) hO rfl rfl dX4_buy_1 ?_
  refine r_aload_n (i := 0) hO rfl rfl dX4_buy_2 ?_
  refine gX4_53 hO hb dX4_buy_3 ?_
  refine r_iload_n (i := 2) hO rfl rfl dX4_buy_6 ?_
  refine r_iald hO (sR_6 hb) dX4_buy_7 ?_
  refine k_X3_unitsUpTo hO hm1 a_179 rfl ⟨rfl, rfl, Nat.le_refl _, Nat.le_refl _⟩ dX4_buy_8 ?_
  intro r1 σ2
  refine r_istore_n (i := 3) hO rfl rfl rfl dX4_buy_11 ?_
  refine r_aload_n (i := 0) hO rfl rfl dX4_buy_12 ?_
  refine gX4_41 hO hb dX4_buy_13 ?_
  refine r_iload_n (i := 2) hO rfl rfl dX4_buy_16 ?_
  refine r_iald hO (sR_2 hb) dX4_buy_17 ?_
  refine r_aload_n (i := 0) hO rfl rfl dX4_buy_18 ?_
  refine gX4_44 hO hb dX4_buy_19 ?_
  refine r_iload_n (i := 2) hO rfl rfl dX4_buy_22 ?_
  refine r_iald hO (sR_3 hb) dX4_buy_23 ?_
  refine r_isub hO dX4_buy_24 ?_
  refine r_istore hO rfl rfl dX4_buy_25 ?_
  refine r_iload_n (i := 3) hO rfl rfl dX4_buy_27 ?_
  refine r_iload hO (d := dX4_buy_28) rfl ?_
  refine r_icmp_ge (tgt := 37) hO dX4_buy_30 (by decide) ?_ ?_
  · refine r_iload hO (d := dX4_buy_37) rfl ?_
    exact r_jmp (b_X4_buy_39 hO hR hb hm1 a2 ((σ2.1 (b + 2) (ix a2)) - (σ2.1 (b + 3) (ix a2))) σ2) (lsub_c rfl (lsub_c rfl (lsub_c rfl lsub_n)))
  · refine r_iload_n (i := 3) hO rfl rfl dX4_buy_33 ?_
    refine r_goto (tgt := 39) hO dX4_buy_34 (by decide) ?_
    exact r_jmp (b_X4_buy_39 hO hR hb hm1 a2 r1 σ2) (lsub_c rfl (lsub_c rfl (lsub_c rfl lsub_n)))
theorem c_X4_buy {l : Launch} {G : Gh} {b : Nat} {m1 : Nat} (hb : isR b) (hm1 : isM m1) (a2 : Int32) (σ : Wd) : Con l G yX4_buy cX4_buy 9 none 2 47 [.ref (G.A b), .ref (G.A m1), .int a2] σ (f_X4_buy b m1 a2 σ) := Con.of (plainFor_of_name (by decide)) rfl (Nat.le_of_ble_eq_true rfl) (fun K hl hG hO hR => by subst hl; subst hG; exact b_X4_buy hO hR hb hm1 a2 σ)
theorem cal_X4_buy : CalV yX4_buy cX4_buy 9 none 2 := ⟨a_183, a_184, a_185, a_149, by decide, by decide, by decide +kernel⟩
theorem k_X4_buy {K : Kt} {nL : Nat} {cs : Nat × Nat} {σ : Wd} {pc : Nat} {lv : List (Nat × Value)} {st : List Value} {cc : ByteArray} {own : String} {rm : Room} {index : Nat} {g : Int32 → Wd → Option (Int32 × Wd)} {b : Nat} {m1 : Nat} {a2 : Int32} (hO : Ok K cc own nL rm) (hb : isR b) (hm1 : isM m1) (hl : Cond.methodLink own index yX4_buy ∈ gtb) (hcat : Nat.ble ((st.map fun v => v.category).sum) 8 = true) (hR : RoomOk rm cs 2 47 9) (d : decode cc pc = .ok (.invokevirtual index, 3)) (kk : ∀ (r : Int32) (σ : Wd), Cm K nL cs (g r σ) σ (pc + 3) lv st) : Cm K nL cs (bd (f_X4_buy b m1 a2 σ) g) σ pc lv (.int a2 :: .ref (K.G.A m1) :: .ref (K.G.A b) :: st) := r_cVv hO (c_X4_buy hb hm1 a2 σ) cal_X4_buy hl rfl (isR_lt hb) (ent_X4 hb) rfl rfl hcat hR d kk
/-! OrderSplit_Run.finish -/
def f_X4_finish_79 (b : Nat) (m1 : Nat)  (x2 : Int32) (σ : Wd) : Option (Int32 × Wd) := gd (inb x2 5) (nmW (wi σ (b + 1) (ix x2) (3 : Int32)) fun σ1 => gd (inb x2 5) (gd (inb x2 5) (nmW (wi σ1 (b + 7) (ix x2) ((σ1.1 b 1) + (σ1.1 (m1 + 5) (ix x2)))) fun σ2 => some (0, σ2))))
def f_X4_finish (b : Nat) (m1 : Nat) (a2 : Int32) (σ : Wd) : Option (Int32 × Wd) := gd (inb a2 5) (bd (f_X3_chargeOf m1 a2 (σ.1 (b + 3) (ix a2)) σ) fun r1 σ2 => gd (inb a2 5) (gd (inb a2 5) (nmW (wi σ2 (b + 4) (ix a2) ((σ2.1 (b + 4) (ix a2)) + r1)) fun σ3 => nmW (wi σ3 b 4 ((σ3.1 b 4) + r1)) fun σ4 => gd (inb a2 5) (if (σ4.1 (b + 2) (ix a2)) ≤ 0 then (f_X4_finish_79 b m1 a2 σ4) else (gd (inb a2 5) (gd (inb a2 5) (gd (inb a2 5) (gd (inb a2 5) (bd (f_J9_floorDiv_7cf53 ((σ4.1 (b + 5) (ix a2)) * (σ4.1 (b + 3) (ix a2))) (σ4.1 (b + 2) (ix a2)) σ4) fun r5 σ6 => nmW (wi σ6 b 5 ((σ4.1 b 5) + ((σ4.1 (b + 4) (ix a2)) - r5))) fun σ7 => (f_X4_finish_79 b m1 a2 σ7))))))))))
set_option maxRecDepth 20000 in
set_option maxHeartbeats 1000000 in
theorem b_X4_finish_79 {K : Kt} {b : Nat} {m1 : Nat}  (hO : Ok K cX4_finish RX4 4 rm_X4_finish) (hR : Rt K none) (hb : isR b) (hm1 : isM m1)  (x2 : Int32) (σ : Wd)  : Cm K 4 (0, 0) (f_X4_finish_79 b m1 x2 σ) σ 79 [(0, .ref (K.G.A b)), (1, .ref (K.G.A m1)), (2, .int x2)] [] := by
  refine r_aload_n (i := 0) hO rfl rfl dX4_finish_79 ?_
  refine gX4_37 hO hb dX4_finish_80 ?_
  refine r_iload_n (i := 2) hO rfl rfl dX4_finish_83 ?_
  refine r_iconst hO ci_3 dX4_finish_84 ?_
  refine r_iast hO (sR_1 hb) dX4_finish_85 ?_
  refine r_nmW fun σ1 => ?_
  refine r_aload_n (i := 0) hO rfl rfl dX4_finish_86 ?_
  refine gX4_56 hO hb dX4_finish_87 ?_
  refine r_iload_n (i := 2) hO rfl rfl dX4_finish_90 ?_
  refine r_aload_n (i := 0) hO rfl rfl dX4_finish_91 ?_
  refine gX4_15 hO hb dX4_finish_92 ?_
  refine r_aload_n (i := 1) hO rfl rfl dX4_finish_95 ?_
  refine gX4_132 hO hm1 dX4_finish_96 ?_
  refine r_iload_n (i := 2) hO rfl rfl dX4_finish_99 ?_
  refine r_iald hO (sM_5 hm1) dX4_finish_100 ?_
  refine r_iadd hO dX4_finish_101 ?_
  refine r_iast hO (sR_7 hb) dX4_finish_102 ?_
  refine r_nmW fun σ2 => ?_
  exact r_vret hO hR dX4_finish_103
set_option maxRecDepth 20000 in
set_option maxHeartbeats 1000000 in
theorem b_X4_finish {K : Kt} {b : Nat} {m1 : Nat} (hO : Ok K cX4_finish RX4 4 rm_X4_finish) (hR : Rt K none) (hb : isR b) (hm1 : isM m1) (a2 : Int32) (σ : Wd) : Cm K 4 (0, 0) (f_X4_finish b m1 a2 σ) σ 0 [(0, .ref (K.G.A b)), (1, .ref (K.G.A m1)), (2, .int a2)] [] := by
  refine r_aload_n (i := 1) hO rfl rfl dX4_finish_0 ?_
  refine r_iload_n (i := 2) hO rfl rfl dX4_finish_1 ?_
  refine r_aload_n (i := 0) hO rfl rfl dX4_finish_2 ?_
  refine gX4_44 hO hb dX4_finish_3 ?_
  refine r_iload_n (i := 2) hO rfl rfl dX4_finish_6 ?_
  refine r_iald hO (sR_3 hb) dX4_finish_7 ?_
  refine k_X3_chargeOf hO hm1 a_189 rfl ⟨rfl, rfl, Nat.le_refl _, Nat.le_refl _⟩ dX4_finish_8 ?_
  intro r1 σ2
  refine r_istore_n (i := 3) hO rfl rfl rfl dX4_finish_11 ?_
  refine r_aload_n (i := 0) hO rfl rfl dX4_finish_12 ?_
  refine gX4_47 hO hb dX4_finish_13 ?_
  refine r_iload_n (i := 2) hO rfl rfl dX4_finish_16 ?_
  refine r_dup2 hO rfl rfl dX4_finish_17 ?_
  refine r_iald hO (sR_4 hb) dX4_finish_18 ?_
  refine r_iload_n (i := 3) hO rfl rfl dX4_finish_19 ?_
  refine r_iadd hO dX4_finish_20 ?_
  refine r_iast hO (sR_4 hb) dX4_finish_21 ?_
  refine r_nmW fun σ3 => ?_
  refine r_aload_n (i := 0) hO rfl rfl dX4_finish_22 ?_
  refine r_dup hO rfl dX4_finish_23 ?_
  refine gX4_25 hO hb dX4_finish_24 ?_
  refine r_iload_n (i := 3) hO rfl rfl dX4_finish_27 ?_
  refine r_iadd hO dX4_finish_28 ?_
  refine pX4_25 hO hb dX4_finish_29 ?_
  refine r_nmW fun σ4 => ?_
  refine r_aload_n (i := 0) hO rfl rfl dX4_finish_32 ?_
  refine gX4_41 hO hb dX4_finish_33 ?_
  refine r_iload_n (i := 2) hO rfl rfl dX4_finish_36 ?_
  refine r_iald hO (sR_2 hb) dX4_finish_37 ?_
  refine r_if_le (tgt := 79) hO dX4_finish_38 (by decide) ?_ ?_
  · exact r_jmp (b_X4_finish_79 hO hR hb hm1 a2 σ4) (lsub_c rfl (lsub_c rfl (lsub_c rfl lsub_n)))
  · refine r_aload_n (i := 0) hO rfl rfl dX4_finish_41 ?_
    refine r_dup hO rfl dX4_finish_42 ?_
    refine gX4_28 hO hb dX4_finish_43 ?_
    refine r_aload_n (i := 0) hO rfl rfl dX4_finish_46 ?_
    refine gX4_47 hO hb dX4_finish_47 ?_
    refine r_iload_n (i := 2) hO rfl rfl dX4_finish_50 ?_
    refine r_iald hO (sR_4 hb) dX4_finish_51 ?_
    refine r_aload_n (i := 0) hO rfl rfl dX4_finish_52 ?_
    refine gX4_50 hO hb dX4_finish_53 ?_
    refine r_iload_n (i := 2) hO rfl rfl dX4_finish_56 ?_
    refine r_iald hO (sR_5 hb) dX4_finish_57 ?_
    refine r_aload_n (i := 0) hO rfl rfl dX4_finish_58 ?_
    refine gX4_44 hO hb dX4_finish_59 ?_
    refine r_iload_n (i := 2) hO rfl rfl dX4_finish_62 ?_
    refine r_iald hO (sR_3 hb) dX4_finish_63 ?_
    refine r_imul hO dX4_finish_64 ?_
    refine r_aload_n (i := 0) hO rfl rfl dX4_finish_65 ?_
    refine gX4_41 hO hb dX4_finish_66 ?_
    refine r_iload_n (i := 2) hO rfl rfl dX4_finish_69 ?_
    refine r_iald hO (sR_2 hb) dX4_finish_70 ?_
    refine k_J9_floorDiv_7cf53 hO a_190 rfl ⟨rfl, rfl, Nat.le_refl _, Nat.le_refl _⟩ dX4_finish_71 ?_
    intro r5 σ6
    refine r_isub hO dX4_finish_74 ?_
    refine r_iadd hO dX4_finish_75 ?_
    refine pX4_28 hO hb dX4_finish_76 ?_
    refine r_nmW fun σ7 => ?_
    exact r_jmp (b_X4_finish_79 hO hR hb hm1 a2 σ7) (lsub_c rfl (lsub_c rfl (lsub_c rfl lsub_n)))
theorem c_X4_finish {l : Launch} {G : Gh} {b : Nat} {m1 : Nat} (hb : isR b) (hm1 : isM m1) (a2 : Int32) (σ : Wd) : Con l G yX4_finish cX4_finish 4 none 1 23 [.ref (G.A b), .ref (G.A m1), .int a2] σ (f_X4_finish b m1 a2 σ) := Con.of (plainFor_of_name (by decide)) rfl (Nat.le_of_ble_eq_true rfl) (fun K hl hG hO hR => by subst hl; subst hG; exact b_X4_finish hO hR hb hm1 a2 σ)
theorem cal_X4_finish : CalV yX4_finish cX4_finish 4 none 2 := ⟨a_191, a_192, a_193, a_149, by decide, by decide, by decide +kernel⟩
theorem k_X4_finish {K : Kt} {nL : Nat} {cs : Nat × Nat} {σ : Wd} {pc : Nat} {lv : List (Nat × Value)} {st : List Value} {cc : ByteArray} {own : String} {rm : Room} {index : Nat} {g : Int32 → Wd → Option (Int32 × Wd)} {b : Nat} {m1 : Nat} {a2 : Int32} (hO : Ok K cc own nL rm) (hb : isR b) (hm1 : isM m1) (hl : Cond.methodLink own index yX4_finish ∈ gtb) (hcat : Nat.ble ((st.map fun v => v.category).sum) 8 = true) (hR : RoomOk rm cs 1 23 4) (d : decode cc pc = .ok (.invokevirtual index, 3)) (kk : ∀ (r : Int32) (σ : Wd), Cm K nL cs (g r σ) σ (pc + 3) lv st) : Cm K nL cs (bd (f_X4_finish b m1 a2 σ) g) σ pc lv (.int a2 :: .ref (K.G.A m1) :: .ref (K.G.A b) :: st) := r_cVv hO (c_X4_finish hb hm1 a2 σ) cal_X4_finish hl rfl (isR_lt hb) (ent_X4 hb) rfl rfl hcat hR d kk
/-! OrderSplit_Run.visit -/
def f_X4_visit_154 (b : Nat) (m1 : Nat)   (σ : Wd) : Option (Int32 × Wd) := some (0, σ)
def f_X4_visit_102 (b : Nat) (m1 : Nat)  (x2 : Int32) (σ : Wd) : Option (Int32 × Wd) := bd (f_X4_finish b m1 x2 σ) fun _ σ1 => (f_X4_visit_154 b m1 σ1)
def f_X4_visit_45 (b : Nat) (m1 : Nat)  (x2 : Int32) (σ : Wd) : Option (Int32 × Wd) := gd (inb x2 5) (if (σ.1 (b + 1) (ix x2)) = (2 : Int32) then (bd (f_X4_buy b m1 x2 σ) fun _ σ1 => gd (inb x2 5) (gd (inb x2 5) (if (σ1.1 (b + 3) (ix x2)) = (σ1.1 (b + 2) (ix x2)) then (f_X4_visit_102 b m1 x2 σ1) else (gd (inb x2 5) (if (σ1.1 (b + 8) (ix x2)) = (σ1.1 b 1) then (f_X4_visit_102 b m1 x2 σ1) else (gd (inb x2 5) (if (σ1.1 b 1) < (σ1.1 (b + 7) (ix x2)) then (f_X4_visit_154 b m1 σ1) else (f_X4_visit_102 b m1 x2 σ1)))))))) else (gd (inb x2 5) (if (σ.1 (b + 1) (ix x2)) = (3 : Int32) then (gd (inb x2 5) (if (σ.1 b 1) < (σ.1 (b + 7) (ix x2)) then (f_X4_visit_154 b m1 σ) else (gd (inb x2 5) (nmW (wi σ b 2 ((σ.1 b 2) - (σ.1 (b + 3) (ix x2)))) fun σ2 => bd (f_X4_drop b x2 σ2) fun _ σ3 => (f_X4_visit_154 b m1 σ3))))) else (f_X4_visit_154 b m1 σ))))
def f_X4_visit (b : Nat) (m1 : Nat) (a2 : Int32) (σ : Wd) : Option (Int32 × Wd) := gd (inb a2 5) (if (σ.1 (b + 1) (ix a2)) = (1 : Int32) then (gd (inb a2 5) (if (σ.1 b 1) < (σ.1 (b + 7) (ix a2)) then (f_X4_visit_45 b m1 a2 σ) else (gd (inb a2 5) (nmW (wi σ (b + 1) (ix a2) (2 : Int32)) fun σ1 => gd (inb a2 5) (nmW (wi σ1 (b + 7) (ix a2) ((σ1.1 b 1) + (σ1.1 m1 2))) fun σ2 => (f_X4_visit_45 b m1 a2 σ2)))))) else (f_X4_visit_45 b m1 a2 σ))
set_option maxRecDepth 20000 in
set_option maxHeartbeats 1000000 in
theorem b_X4_visit_154 {K : Kt} {b : Nat} {m1 : Nat}  (hO : Ok K cX4_visit RX4 3 rm_X4_visit) (hR : Rt K none) (hb : isR b) (hm1 : isM m1)   (σ : Wd)  : Cm K 3 (0, 0) (f_X4_visit_154 b m1  σ) σ 154 [] [] := by
  exact r_vret hO hR dX4_visit_154
set_option maxRecDepth 20000 in
set_option maxHeartbeats 1000000 in
theorem b_X4_visit_102 {K : Kt} {b : Nat} {m1 : Nat}  (hO : Ok K cX4_visit RX4 3 rm_X4_visit) (hR : Rt K none) (hb : isR b) (hm1 : isM m1)  (x2 : Int32) (σ : Wd)  : Cm K 3 (0, 0) (f_X4_visit_102 b m1 x2 σ) σ 102 [(0, .ref (K.G.A b)), (1, .ref (K.G.A m1)), (2, .int x2)] [] := by
  refine r_aload_n (i := 0) hO rfl rfl dX4_visit_102 ?_
  refine r_aload_n (i := 1) hO rfl rfl dX4_visit_103 ?_
  refine r_iload_n (i := 2) hO rfl rfl dX4_visit_104 ?_
  refine k_X4_finish hO hb hm1 a_195 rfl ⟨rfl, rfl, Nat.le_refl _, Nat.le_refl _⟩ dX4_visit_105 ?_
  intro _ σ1
  refine r_goto (tgt := 154) hO dX4_visit_108 (by decide) ?_
  exact r_jmp (b_X4_visit_154 hO hR hb hm1 σ1) lsub_n
set_option maxRecDepth 20000 in
set_option maxHeartbeats 1000000 in
theorem b_X4_visit_45 {K : Kt} {b : Nat} {m1 : Nat}  (hO : Ok K cX4_visit RX4 3 rm_X4_visit) (hR : Rt K none) (hb : isR b) (hm1 : isM m1)  (x2 : Int32) (σ : Wd)  : Cm K 3 (0, 0) (f_X4_visit_45 b m1 x2 σ) σ 45 [(0, .ref (K.G.A b)), (1, .ref (K.G.A m1)), (2, .int x2)] [] := by
  refine r_aload_n (i := 0) hO rfl rfl dX4_visit_45 ?_
  refine gX4_37 hO hb dX4_visit_46 ?_
  refine r_iload_n (i := 2) hO rfl rfl dX4_visit_49 ?_
  refine r_iald hO (sR_1 hb) dX4_visit_50 ?_
  refine r_iconst hO ci_2 dX4_visit_51 ?_
  refine r_icmp_ne (tgt := 111) hO dX4_visit_52 (by decide) ?_ ?_
  · refine r_aload_n (i := 0) hO rfl rfl dX4_visit_55 ?_
    refine r_aload_n (i := 1) hO rfl rfl dX4_visit_56 ?_
    refine r_iload_n (i := 2) hO rfl rfl dX4_visit_57 ?_
    refine k_X4_buy hO hb hm1 a_194 rfl ⟨rfl, rfl, Nat.le_refl _, Nat.le_refl _⟩ dX4_visit_58 ?_
    intro _ σ1
    refine r_aload_n (i := 0) hO rfl rfl dX4_visit_61 ?_
    refine gX4_44 hO hb dX4_visit_62 ?_
    refine r_iload_n (i := 2) hO rfl rfl dX4_visit_65 ?_
    refine r_iald hO (sR_3 hb) dX4_visit_66 ?_
    refine r_aload_n (i := 0) hO rfl rfl dX4_visit_67 ?_
    refine gX4_41 hO hb dX4_visit_68 ?_
    refine r_iload_n (i := 2) hO rfl rfl dX4_visit_71 ?_
    refine r_iald hO (sR_2 hb) dX4_visit_72 ?_
    refine r_icmp_eq (tgt := 102) hO dX4_visit_73 (by decide) ?_ ?_
    · exact r_jmp (b_X4_visit_102 hO hR hb hm1 x2 σ1) (lsub_c rfl (lsub_c rfl (lsub_c rfl lsub_n)))
    · refine r_aload_n (i := 0) hO rfl rfl dX4_visit_76 ?_
      refine gX4_59 hO hb dX4_visit_77 ?_
      refine r_iload_n (i := 2) hO rfl rfl dX4_visit_80 ?_
      refine r_iald hO (sR_8 hb) dX4_visit_81 ?_
      refine r_aload_n (i := 0) hO rfl rfl dX4_visit_82 ?_
      refine gX4_15 hO hb dX4_visit_83 ?_
      refine r_icmp_eq (tgt := 102) hO dX4_visit_86 (by decide) ?_ ?_
      · exact r_jmp (b_X4_visit_102 hO hR hb hm1 x2 σ1) (lsub_c rfl (lsub_c rfl (lsub_c rfl lsub_n)))
      · refine r_aload_n (i := 0) hO rfl rfl dX4_visit_89 ?_
        refine gX4_56 hO hb dX4_visit_90 ?_
        refine r_iload_n (i := 2) hO rfl rfl dX4_visit_93 ?_
        refine r_iald hO (sR_7 hb) dX4_visit_94 ?_
        refine r_aload_n (i := 0) hO rfl rfl dX4_visit_95 ?_
        refine gX4_15 hO hb dX4_visit_96 ?_
        refine r_icmp_gt (tgt := 154) hO dX4_visit_99 (by decide) ?_ ?_
        · exact r_jmp (b_X4_visit_154 hO hR hb hm1 σ1) lsub_n
        · exact r_jmp (b_X4_visit_102 hO hR hb hm1 x2 σ1) (lsub_c rfl (lsub_c rfl (lsub_c rfl lsub_n)))
  · refine r_aload_n (i := 0) hO rfl rfl dX4_visit_111 ?_
    refine gX4_37 hO hb dX4_visit_112 ?_
    refine r_iload_n (i := 2) hO rfl rfl dX4_visit_115 ?_
    refine r_iald hO (sR_1 hb) dX4_visit_116 ?_
    refine r_iconst hO ci_3 dX4_visit_117 ?_
    refine r_icmp_ne (tgt := 154) hO dX4_visit_118 (by decide) ?_ ?_
    · refine r_aload_n (i := 0) hO rfl rfl dX4_visit_121 ?_
      refine gX4_56 hO hb dX4_visit_122 ?_
      refine r_iload_n (i := 2) hO rfl rfl dX4_visit_125 ?_
      refine r_iald hO (sR_7 hb) dX4_visit_126 ?_
      refine r_aload_n (i := 0) hO rfl rfl dX4_visit_127 ?_
      refine gX4_15 hO hb dX4_visit_128 ?_
      refine r_icmp_gt (tgt := 154) hO dX4_visit_131 (by decide) ?_ ?_
      · exact r_jmp (b_X4_visit_154 hO hR hb hm1 σ) lsub_n
      · refine r_aload_n (i := 0) hO rfl rfl dX4_visit_134 ?_
        refine r_dup hO rfl dX4_visit_135 ?_
        refine gX4_19 hO hb dX4_visit_136 ?_
        refine r_aload_n (i := 0) hO rfl rfl dX4_visit_139 ?_
        refine gX4_44 hO hb dX4_visit_140 ?_
        refine r_iload_n (i := 2) hO rfl rfl dX4_visit_143 ?_
        refine r_iald hO (sR_3 hb) dX4_visit_144 ?_
        refine r_isub hO dX4_visit_145 ?_
        refine pX4_19 hO hb dX4_visit_146 ?_
        refine r_nmW fun σ2 => ?_
        refine r_aload_n (i := 0) hO rfl rfl dX4_visit_149 ?_
        refine r_iload_n (i := 2) hO rfl rfl dX4_visit_150 ?_
        refine k_X4_drop hO hb a_150 rfl ⟨rfl, rfl, Nat.le_refl _, Nat.le_refl _⟩ dX4_visit_151 ?_
        intro _ σ3
        exact r_jmp (b_X4_visit_154 hO hR hb hm1 σ3) lsub_n
    · exact r_jmp (b_X4_visit_154 hO hR hb hm1 σ) lsub_n
set_option maxRecDepth 20000 in
set_option maxHeartbeats 1000000 in
theorem b_X4_visit {K : Kt} {b : Nat} {m1 : Nat} (hO : Ok K cX4_visit RX4 3 rm_X4_visit) (hR : Rt K none) (hb : isR b) (hm1 : isM m1) (a2 : Int32) (σ : Wd) : Cm K 3 (0, 0) (f_X4_visit b m1 a2 σ) σ 0 [(0, .ref (K.G.A b)), (1, .ref (K.G.A m1)), (2, .int a2)] [] := by
  refine r_aload_n (i := 0) hO rfl rfl dX4_visit_0 ?_
  refine gX4_37 hO hb dX4_visit_1 ?_
  refine r_iload_n (i := 2) hO rfl rfl dX4_visit_4 ?_
  refine r_iald hO (sR_1 hb) dX4_visit_5 ?_
  refine r_iconst hO ci_1 dX4_visit_6 ?_
  refine r_icmp_ne (tgt := 45) hO dX4_visit_7 (by decide) ?_ ?_
  · refine r_aload_n (i := 0) hO rfl rfl dX4_visit_10 ?_
    refine gX4_56 hO hb dX4_visit_11 ?_
    refine r_iload_n (i := 2) hO rfl rfl dX4_visit_14 ?_
    refine r_iald hO (sR_7 hb) dX4_visit_15 ?_
    refine r_aload_n (i := 0) hO rfl rfl dX4_visit_16 ?_
    refine gX4_15 hO hb dX4_visit_17 ?_
    refine r_icmp_gt (tgt := 45) hO dX4_visit_20 (by decide) ?_ ?_
    · exact r_jmp (b_X4_visit_45 hO hR hb hm1 a2 σ) (lsub_c rfl (lsub_c rfl (lsub_c rfl lsub_n)))
    · refine r_aload_n (i := 0) hO rfl rfl dX4_visit_23 ?_
      refine gX4_37 hO hb dX4_visit_24 ?_
      refine r_iload_n (i := 2) hO rfl rfl dX4_visit_27 ?_
      refine r_iconst hO ci_2 dX4_visit_28 ?_
      refine r_iast hO (sR_1 hb) dX4_visit_29 ?_
      refine r_nmW fun σ1 => ?_
      refine r_aload_n (i := 0) hO rfl rfl dX4_visit_30 ?_
      refine gX4_56 hO hb dX4_visit_31 ?_
      refine r_iload_n (i := 2) hO rfl rfl dX4_visit_34 ?_
      refine r_aload_n (i := 0) hO rfl rfl dX4_visit_35 ?_
      refine gX4_15 hO hb dX4_visit_36 ?_
      refine r_aload_n (i := 1) hO rfl rfl dX4_visit_39 ?_
      refine gX4_155 hO hm1 dX4_visit_40 ?_
      refine r_iadd hO dX4_visit_43 ?_
      refine r_iast hO (sR_7 hb) dX4_visit_44 ?_
      refine r_nmW fun σ2 => ?_
      exact r_jmp (b_X4_visit_45 hO hR hb hm1 a2 σ2) (lsub_c rfl (lsub_c rfl (lsub_c rfl lsub_n)))
  · exact r_jmp (b_X4_visit_45 hO hR hb hm1 a2 σ) (lsub_c rfl (lsub_c rfl (lsub_c rfl lsub_n)))
theorem c_X4_visit {l : Launch} {G : Gh} {b : Nat} {m1 : Nat} (hb : isR b) (hm1 : isM m1) (a2 : Int32) (σ : Wd) : Con l G yX4_visit cX4_visit 3 none 3 75 [.ref (G.A b), .ref (G.A m1), .int a2] σ (f_X4_visit b m1 a2 σ) := Con.of (plainFor_of_name (by decide)) rfl (Nat.le_of_ble_eq_true rfl) (fun K hl hG hO hR => by subst hl; subst hG; exact b_X4_visit hO hR hb hm1 a2 σ)
theorem cal_X4_visit : CalV yX4_visit cX4_visit 3 none 2 := ⟨a_196, a_197, a_198, a_149, by decide, by decide, by decide +kernel⟩
theorem k_X4_visit {K : Kt} {nL : Nat} {cs : Nat × Nat} {σ : Wd} {pc : Nat} {lv : List (Nat × Value)} {st : List Value} {cc : ByteArray} {own : String} {rm : Room} {index : Nat} {g : Int32 → Wd → Option (Int32 × Wd)} {b : Nat} {m1 : Nat} {a2 : Int32} (hO : Ok K cc own nL rm) (hb : isR b) (hm1 : isM m1) (hl : Cond.methodLink own index yX4_visit ∈ gtb) (hcat : Nat.ble ((st.map fun v => v.category).sum) 8 = true) (hR : RoomOk rm cs 3 75 3) (d : decode cc pc = .ok (.invokevirtual index, 3)) (kk : ∀ (r : Int32) (σ : Wd), Cm K nL cs (g r σ) σ (pc + 3) lv st) : Cm K nL cs (bd (f_X4_visit b m1 a2 σ) g) σ pc lv (.int a2 :: .ref (K.G.A m1) :: .ref (K.G.A b) :: st) := r_cVv hO (c_X4_visit hb hm1 a2 σ) cal_X4_visit hl rfl (isR_lt hb) (ent_X4 hb) rfl rfl hcat hR d kk
/-! OrderSplit_Run.tick -/
def f_X4_tick_75 (b : Nat) (m1 : Nat)  : Nat → Int32 → Wd → Option (Int32 × Wd)
  | 0 => fun _ _ => none
  | n + 1 => fun x3 σ => if (σ.1 m1 3) ≤ x3 then (bd (f_X4_startRound b m1 σ) fun r1 σ2 => some (0, σ2)) else (bd (f_X4_visit b m1 x3 σ) fun _ σ3 => (f_X4_tick_75 b m1 n (x3 + (1 : Int32)) σ3))
def f_X4_tick_73 (b : Nat) (m1 : Nat)   (σ : Wd) : Option (Int32 × Wd) := (f_X4_tick_75 b m1 FU (0 : Int32) σ)
def f_X4_tick_10 (b : Nat) (m1 : Nat)  : Nat → Wd → Option (Int32 × Wd)
  | 0 => fun _ => none
  | n + 1 => fun  σ => if (σ.1 m1 4) ≤ (σ.1 b 7) then (f_X4_tick_73 b m1 σ) else (gd (inb (σ.1 b 7) 10) (if (σ.1 b 1) < (σ.1 (m1 + 10) (ix (σ.1 b 7))) then (f_X4_tick_73 b m1 σ) else (gd (inb (σ.1 b 7) 10) (gd (inb (σ.1 b 7) 10) (gd (inb (σ.1 (m1 + 11) (ix (σ.1 b 7))) 30) (nmW (wi σ (m1 + 9) (ix (σ.1 (m1 + 11) (ix (σ.1 b 7)))) (σ.1 (m1 + 12) (ix (σ.1 b 7)))) fun σ1 => nmW (wi σ1 b 7 ((σ1.1 b 7) + (1 : Int32))) fun σ2 => (f_X4_tick_10 b m1 n σ2)))))))
def f_X4_tick (b : Nat) (m1 : Nat) (σ : Wd) : Option (Int32 × Wd) := nmW (wi σ b 1 ((σ.1 b 1) + (1 : Int32))) fun σ1 => (f_X4_tick_10 b m1 FU σ1)
set_option maxRecDepth 20000 in
set_option maxHeartbeats 1000000 in
theorem b_X4_tick_75 {K : Kt} {b : Nat} {m1 : Nat}  (hO : Ok K cX4_tick RX4 4 rm_X4_tick) (hR : Rt K none) (hb : isR b) (hm1 : isM m1)  : ∀ (n : Nat) (x3 : Int32) (σ : Wd) , Cm K 4 (0, 0) (f_X4_tick_75 b m1 n x3 σ) σ 75 [(0, .ref (K.G.A b)), (1, .ref (K.G.A m1)), (2, .ref (K.G.A 4)), (3, .int x3)] [] := by
  intro n
  induction n with
  | zero => intro x3 σ ; exact r_none
  | succ n ih =>
    intro x3 σ 
    refine r_iload_n (i := 3) hO rfl rfl dX4_tick_75 ?_
    refine r_aload_n (i := 1) hO rfl rfl dX4_tick_76 ?_
    refine gX4_86 hO hm1 dX4_tick_77 ?_
    refine r_icmp_ge (tgt := 95) hO dX4_tick_80 (by decide) ?_ ?_
    · refine r_aload_n (i := 0) hO rfl rfl dX4_tick_95 ?_
      refine r_aload_n (i := 1) hO rfl rfl dX4_tick_96 ?_
      refine r_aload_n (i := 2) hO rfl rfl dX4_tick_97 ?_
      refine k_X4_startRound hO hb hm1 a_199 rfl ⟨rfl, rfl, Nat.le_refl _, Nat.le_refl _⟩ dX4_tick_98 ?_
      intro r1 σ2
      refine r_pop hO rfl dX4_tick_101 ?_
      exact r_vret hO hR dX4_tick_102
    · refine r_aload_n (i := 0) hO rfl rfl dX4_tick_83 ?_
      refine r_aload_n (i := 1) hO rfl rfl dX4_tick_84 ?_
      refine r_iload_n (i := 3) hO rfl rfl dX4_tick_85 ?_
      refine k_X4_visit hO hb hm1 a_200 rfl ⟨rfl, rfl, Nat.le_refl _, Nat.le_refl _⟩ dX4_tick_86 ?_
      intro _ σ3
      refine r_iinc hO rfl ci_1 rfl rfl dX4_tick_89 ?_
      refine r_goto (tgt := 75) hO dX4_tick_92 (by decide) ?_
      exact r_jmp (ih (x3 + (1 : Int32)) σ3) (lsub_c rfl (lsub_c rfl (lsub_c rfl (lsub_c rfl lsub_n))))
set_option maxRecDepth 20000 in
set_option maxHeartbeats 1000000 in
theorem b_X4_tick_73 {K : Kt} {b : Nat} {m1 : Nat}  (hO : Ok K cX4_tick RX4 4 rm_X4_tick) (hR : Rt K none) (hb : isR b) (hm1 : isM m1)   (σ : Wd)  : Cm K 4 (0, 0) (f_X4_tick_73 b m1  σ) σ 73 [(0, .ref (K.G.A b)), (1, .ref (K.G.A m1)), (2, .ref (K.G.A 4))] [] := by
  refine r_iconst hO ci_0 dX4_tick_73 ?_
  refine r_istore_n (i := 3) hO rfl rfl rfl dX4_tick_74 ?_
  exact r_jmp (b_X4_tick_75 hO hR hb hm1 FU (0 : Int32) σ) (lsub_c rfl (lsub_c rfl (lsub_c rfl (lsub_c rfl lsub_n))))
set_option maxRecDepth 20000 in
set_option maxHeartbeats 1000000 in
theorem b_X4_tick_10 {K : Kt} {b : Nat} {m1 : Nat}  (hO : Ok K cX4_tick RX4 4 rm_X4_tick) (hR : Rt K none) (hb : isR b) (hm1 : isM m1)  : ∀ (n : Nat)  (σ : Wd) , Cm K 4 (0, 0) (f_X4_tick_10 b m1 n  σ) σ 10 [(0, .ref (K.G.A b)), (1, .ref (K.G.A m1)), (2, .ref (K.G.A 4))] [] := by
  intro n
  induction n with
  | zero => intro  σ ; exact r_none
  | succ n ih =>
    intro  σ 
    refine r_aload_n (i := 0) hO rfl rfl dX4_tick_10 ?_
    refine gX4_34 hO hb dX4_tick_11 ?_
    refine r_aload_n (i := 1) hO rfl rfl dX4_tick_14 ?_
    refine gX4_95 hO hm1 dX4_tick_15 ?_
    refine r_icmp_ge (tgt := 73) hO dX4_tick_18 (by decide) ?_ ?_
    · exact r_jmp (b_X4_tick_73 hO hR hb hm1 σ) (lsub_c rfl (lsub_c rfl (lsub_c rfl lsub_n)))
    · refine r_aload_n (i := 1) hO rfl rfl dX4_tick_21 ?_
      refine gX4_135 hO hm1 dX4_tick_22 ?_
      refine r_aload_n (i := 0) hO rfl rfl dX4_tick_25 ?_
      refine gX4_34 hO hb dX4_tick_26 ?_
      refine r_iald hO (sM_10 hm1) dX4_tick_29 ?_
      refine r_aload_n (i := 0) hO rfl rfl dX4_tick_30 ?_
      refine gX4_15 hO hb dX4_tick_31 ?_
      refine r_icmp_gt (tgt := 73) hO dX4_tick_34 (by decide) ?_ ?_
      · exact r_jmp (b_X4_tick_73 hO hR hb hm1 σ) (lsub_c rfl (lsub_c rfl (lsub_c rfl lsub_n)))
      · refine r_aload_n (i := 1) hO rfl rfl dX4_tick_37 ?_
        refine gX4_138 hO hm1 dX4_tick_38 ?_
        refine r_aload_n (i := 1) hO rfl rfl dX4_tick_41 ?_
        refine gX4_141 hO hm1 dX4_tick_42 ?_
        refine r_aload_n (i := 0) hO rfl rfl dX4_tick_45 ?_
        refine gX4_34 hO hb dX4_tick_46 ?_
        refine r_iald hO (sM_11 hm1) dX4_tick_49 ?_
        refine r_aload_n (i := 1) hO rfl rfl dX4_tick_50 ?_
        refine gX4_144 hO hm1 dX4_tick_51 ?_
        refine r_aload_n (i := 0) hO rfl rfl dX4_tick_54 ?_
        refine gX4_34 hO hb dX4_tick_55 ?_
        refine r_iald hO (sM_12 hm1) dX4_tick_58 ?_
        refine r_iast hO (sM_9 hm1) dX4_tick_59 ?_
        refine r_nmW fun σ1 => ?_
        refine r_aload_n (i := 0) hO rfl rfl dX4_tick_60 ?_
        refine r_dup hO rfl dX4_tick_61 ?_
        refine gX4_34 hO hb dX4_tick_62 ?_
        refine r_iconst hO ci_1 dX4_tick_65 ?_
        refine r_iadd hO dX4_tick_66 ?_
        refine pX4_34 hO hb dX4_tick_67 ?_
        refine r_nmW fun σ2 => ?_
        refine r_goto (tgt := 10) hO dX4_tick_70 (by decide) ?_
        exact r_jmp (ih σ2) (lsub_c rfl (lsub_c rfl (lsub_c rfl lsub_n)))
set_option maxRecDepth 20000 in
set_option maxHeartbeats 1000000 in
theorem b_X4_tick {K : Kt} {b : Nat} {m1 : Nat} (hO : Ok K cX4_tick RX4 4 rm_X4_tick) (hR : Rt K none) (hb : isR b) (hm1 : isM m1)  (σ : Wd) : Cm K 4 (0, 0) (f_X4_tick b m1 σ) σ 0 [(0, .ref (K.G.A b)), (1, .ref (K.G.A m1)), (2, .ref (K.G.A 4))] [] := by
  refine r_aload_n (i := 0) hO rfl rfl dX4_tick_0 ?_
  refine r_dup hO rfl dX4_tick_1 ?_
  refine gX4_15 hO hb dX4_tick_2 ?_
  refine r_iconst hO ci_1 dX4_tick_5 ?_
  refine r_iadd hO dX4_tick_6 ?_
  refine pX4_15 hO hb dX4_tick_7 ?_
  refine r_nmW fun σ1 => ?_
  exact r_jmp (b_X4_tick_10 hO hR hb hm1 FU σ1) (lsub_c rfl (lsub_c rfl (lsub_c rfl lsub_n)))
theorem c_X4_tick {l : Launch} {G : Gh} {b : Nat} {m1 : Nat} (hb : isR b) (hm1 : isM m1)  (σ : Wd) : Con l G yX4_tick cX4_tick 4 none 5 129 [.ref (G.A b), .ref (G.A m1), .ref (G.A 4)] σ (f_X4_tick b m1 σ) := Con.of (plainFor_of_name (by decide)) rfl (Nat.le_of_ble_eq_true rfl) (fun K hl hG hO hR => by subst hl; subst hG; exact b_X4_tick hO hR hb hm1  σ)
theorem cal_X4_tick : CalV yX4_tick cX4_tick 4 none 2 := ⟨a_201, a_202, a_203, a_149, by decide, by decide, by decide +kernel⟩
theorem k_X4_tick {K : Kt} {nL : Nat} {cs : Nat × Nat} {σ : Wd} {pc : Nat} {lv : List (Nat × Value)} {st : List Value} {cc : ByteArray} {own : String} {rm : Room} {index : Nat} {g : Int32 → Wd → Option (Int32 × Wd)} {b : Nat} {m1 : Nat} (hO : Ok K cc own nL rm) (hb : isR b) (hm1 : isM m1) (hl : Cond.methodLink own index yX4_tick ∈ gtb) (hcat : Nat.ble ((st.map fun v => v.category).sum) 8 = true) (hR : RoomOk rm cs 5 129 4) (d : decode cc pc = .ok (.invokevirtual index, 3)) (kk : ∀ (r : Int32) (σ : Wd), Cm K nL cs (g r σ) σ (pc + 3) lv st) : Cm K nL cs (bd (f_X4_tick b m1 σ) g) σ pc lv (.ref (K.G.A 4) :: .ref (K.G.A m1) :: .ref (K.G.A b) :: st) := r_cVv hO (c_X4_tick hb hm1  σ) cal_X4_tick hl rfl (isR_lt hb) (ent_X4 hb) rfl rfl hcat hR d kk
/-! OrderSplit_Run.canBeCalled -/
def f_X4_canBeCalled_45 (b : Nat)  (s0 : Int32) (σ : Wd) : Option (Int32 × Wd) := gd (isb s0) (some (s0, σ))
def f_X4_canBeCalled_44 (b : Nat)   (σ : Wd) : Option (Int32 × Wd) := (f_X4_canBeCalled_45 b (0 : Int32) σ)
def f_X4_canBeCalled_27 (b : Nat)  (x1 : Int32) (σ : Wd) : Option (Int32 × Wd) := gd (inb x1 5) (if (σ.1 b 1) < (σ.1 (b + 8) (ix x1)) then (f_X4_canBeCalled_44 b σ) else (f_X4_canBeCalled_45 b (1 : Int32) σ))
def f_X4_canBeCalled (b : Nat) (a1 : Int32) (σ : Wd) : Option (Int32 × Wd) := if (σ.1 b 0) = 0 then (f_X4_canBeCalled_44 b σ) else (gd (inb a1 5) (if (σ.1 (b + 1) (ix a1)) = (1 : Int32) then (f_X4_canBeCalled_27 b a1 σ) else (gd (inb a1 5) (if (σ.1 (b + 1) (ix a1)) = (2 : Int32) then (f_X4_canBeCalled_27 b a1 σ) else (f_X4_canBeCalled_44 b σ)))))
set_option maxRecDepth 20000 in
set_option maxHeartbeats 1000000 in
theorem b_X4_canBeCalled_45 {K : Kt} {b : Nat}  (hO : Ok K cX4_canBeCalled RX4 2 rm_X4_canBeCalled) (hR : Rt K (some .boolean)) (hb : isR b)  (s0 : Int32) (σ : Wd)  : Cm K 2 (0, 0) (f_X4_canBeCalled_45 b s0 σ) σ 45 [] [.int s0] := by
  exact r_zret hO hR dX4_canBeCalled_45
set_option maxRecDepth 20000 in
set_option maxHeartbeats 1000000 in
theorem b_X4_canBeCalled_44 {K : Kt} {b : Nat}  (hO : Ok K cX4_canBeCalled RX4 2 rm_X4_canBeCalled) (hR : Rt K (some .boolean)) (hb : isR b)   (σ : Wd)  : Cm K 2 (0, 0) (f_X4_canBeCalled_44 b  σ) σ 44 [] [] := by
  refine r_iconst hO ci_0 dX4_canBeCalled_44 ?_
  exact r_jmp (b_X4_canBeCalled_45 hO hR hb (0 : Int32) σ) lsub_n
set_option maxRecDepth 20000 in
set_option maxHeartbeats 1000000 in
theorem b_X4_canBeCalled_27 {K : Kt} {b : Nat}  (hO : Ok K cX4_canBeCalled RX4 2 rm_X4_canBeCalled) (hR : Rt K (some .boolean)) (hb : isR b)  (x1 : Int32) (σ : Wd)  : Cm K 2 (0, 0) (f_X4_canBeCalled_27 b x1 σ) σ 27 [(0, .ref (K.G.A b)), (1, .int x1)] [] := by
  refine r_aload_n (i := 0) hO rfl rfl dX4_canBeCalled_27 ?_
  refine gX4_59 hO hb dX4_canBeCalled_28 ?_
  refine r_iload_n (i := 1) hO rfl rfl dX4_canBeCalled_31 ?_
  refine r_iald hO (sR_8 hb) dX4_canBeCalled_32 ?_
  refine r_aload_n (i := 0) hO rfl rfl dX4_canBeCalled_33 ?_
  refine gX4_15 hO hb dX4_canBeCalled_34 ?_
  refine r_icmp_gt (tgt := 44) hO dX4_canBeCalled_37 (by decide) ?_ ?_
  · exact r_jmp (b_X4_canBeCalled_44 hO hR hb σ) lsub_n
  · refine r_iconst hO ci_1 dX4_canBeCalled_40 ?_
    refine r_goto (tgt := 45) hO dX4_canBeCalled_41 (by decide) ?_
    exact r_jmp (b_X4_canBeCalled_45 hO hR hb (1 : Int32) σ) lsub_n
set_option maxRecDepth 20000 in
set_option maxHeartbeats 1000000 in
theorem b_X4_canBeCalled {K : Kt} {b : Nat} (hO : Ok K cX4_canBeCalled RX4 2 rm_X4_canBeCalled) (hR : Rt K (some .boolean)) (hb : isR b) (a1 : Int32) (σ : Wd) : Cm K 2 (0, 0) (f_X4_canBeCalled b a1 σ) σ 0 [(0, .ref (K.G.A b)), (1, .int a1)] [] := by
  refine r_aload_n (i := 0) hO rfl rfl dX4_canBeCalled_0 ?_
  refine gX4_9 hO hb dX4_canBeCalled_1 ?_
  refine r_if_eq (tgt := 44) hO dX4_canBeCalled_4 (by decide) ?_ ?_
  · exact r_jmp (b_X4_canBeCalled_44 hO hR hb σ) lsub_n
  · refine r_aload_n (i := 0) hO rfl rfl dX4_canBeCalled_7 ?_
    refine gX4_37 hO hb dX4_canBeCalled_8 ?_
    refine r_iload_n (i := 1) hO rfl rfl dX4_canBeCalled_11 ?_
    refine r_iald hO (sR_1 hb) dX4_canBeCalled_12 ?_
    refine r_iconst hO ci_1 dX4_canBeCalled_13 ?_
    refine r_icmp_eq (tgt := 27) hO dX4_canBeCalled_14 (by decide) ?_ ?_
    · exact r_jmp (b_X4_canBeCalled_27 hO hR hb a1 σ) (lsub_c rfl (lsub_c rfl lsub_n))
    · refine r_aload_n (i := 0) hO rfl rfl dX4_canBeCalled_17 ?_
      refine gX4_37 hO hb dX4_canBeCalled_18 ?_
      refine r_iload_n (i := 1) hO rfl rfl dX4_canBeCalled_21 ?_
      refine r_iald hO (sR_1 hb) dX4_canBeCalled_22 ?_
      refine r_iconst hO ci_2 dX4_canBeCalled_23 ?_
      refine r_icmp_ne (tgt := 44) hO dX4_canBeCalled_24 (by decide) ?_ ?_
      · exact r_jmp (b_X4_canBeCalled_27 hO hR hb a1 σ) (lsub_c rfl (lsub_c rfl lsub_n))
      · exact r_jmp (b_X4_canBeCalled_44 hO hR hb σ) lsub_n
theorem c_X4_canBeCalled {l : Launch} {G : Gh} {b : Nat} (hb : isR b) (a1 : Int32) (σ : Wd) : Con l G yX4_canBeCalled cX4_canBeCalled 2 (some .boolean) 0 0 [.ref (G.A b), .int a1] σ (f_X4_canBeCalled b a1 σ) := Con.of (plainFor_of_name (by decide)) rfl (Nat.le_of_ble_eq_true rfl) (fun K hl hG hO hR => by subst hl; subst hG; exact b_X4_canBeCalled hO hR hb a1 σ)
theorem cal_X4_canBeCalled : CalV yX4_canBeCalled cX4_canBeCalled 2 (some .boolean) 1 := ⟨a_204, a_205, a_206, a_149, by decide, by decide, by decide +kernel⟩
theorem k_X4_canBeCalled {K : Kt} {nL : Nat} {cs : Nat × Nat} {σ : Wd} {pc : Nat} {lv : List (Nat × Value)} {st : List Value} {cc : ByteArray} {own : String} {rm : Room} {index : Nat} {g : Int32 → Wd → Option (Int32 × Wd)} {b : Nat} {a1 : Int32} (hO : Ok K cc own nL rm) (hb : isR b) (hl : Cond.methodLink own index yX4_canBeCalled ∈ gtb) (hcat : Nat.ble ((st.map fun v => v.category).sum) 8 = true) (hR : RoomOk rm cs 0 0 2) (d : decode cc pc = .ok (.invokevirtual index, 3)) (kk : ∀ (r : Int32) (σ : Wd), Cm K nL cs (g r σ) σ (pc + 3) lv (.int r :: st)) : Cm K nL cs (bd (f_X4_canBeCalled b a1 σ) g) σ pc lv (.int a1 :: .ref (K.G.A b) :: st) := r_cVi hO (c_X4_canBeCalled hb a1 σ) cal_X4_canBeCalled hl rfl (isR_lt hb) (ent_X4 hb) rfl rfl hcat hR d kk
/-! OrderSplit_Run.tell -/
def f_X4_tell_87 (b : Nat) (m1 : Nat)  (s0 : Int32) (σ : Wd) : Option (Int32 × Wd) := some (s0, σ)
def f_X4_tell (b : Nat) (m1 : Nat) (a2 : Int32) (σ : Wd) : Option (Int32 × Wd) := if a2 = (0 : Int32) then (some (σ.1 b 1, σ)) else (if a2 = (1 : Int32) then (some (σ.1 b 2, σ)) else (if a2 = (2 : Int32) then (some (σ.1 b 3, σ)) else (if a2 = (3 : Int32) then (some (σ.1 b 4, σ)) else (if a2 = (4 : Int32) then (some (σ.1 b 5, σ)) else (if a2 = (5 : Int32) then (some (σ.1 b 6, σ)) else (if a2 = (6 : Int32) then (bd (f_X4_isOver b m1 σ) fun r1 σ2 => if r1 = 0 then (f_X4_tell_87 b m1 (0 : Int32) σ2) else (f_X4_tell_87 b m1 (1 : Int32) σ2)) else (some ((σ.1 m1 4) - (σ.1 b 7), σ))))))))
set_option maxRecDepth 20000 in
set_option maxHeartbeats 1000000 in
theorem b_X4_tell_87 {K : Kt} {b : Nat} {m1 : Nat}  (hO : Ok K cX4_tell RX4 3 rm_X4_tell) (hR : Rt K (some .int)) (hb : isR b) (hm1 : isM m1)  (s0 : Int32) (σ : Wd)  : Cm K 3 (0, 0) (f_X4_tell_87 b m1 s0 σ) σ 87 [] [.int s0] := by
  exact r_iret hO hR dX4_tell_87
set_option maxRecDepth 20000 in
set_option maxHeartbeats 1000000 in
theorem b_X4_tell {K : Kt} {b : Nat} {m1 : Nat} (hO : Ok K cX4_tell RX4 3 rm_X4_tell) (hR : Rt K (some .int)) (hb : isR b) (hm1 : isM m1) (a2 : Int32) (σ : Wd) : Cm K 3 (0, 0) (f_X4_tell b m1 a2 σ) σ 0 [(0, .ref (K.G.A b)), (1, .ref (K.G.A m1)), (2, .int a2)] [] := by
  refine r_iload_n (i := 2) hO rfl rfl dX4_tell_0 ?_
  refine r_if (fun hc => ?_) (fun hc0 => ?_)
  · refine r_tsI (tgt := 44) hO dX4_tell_1 hc (by decide) (by decide) rfl (by decide) ?_
    refine r_aload_n (i := 0) hO rfl rfl dX4_tell_44 ?_
    refine gX4_15 hO hb dX4_tell_45 ?_
    exact r_iret hO hR dX4_tell_48
  · refine r_if (fun hc => ?_) (fun hc1 => ?_)
    · refine r_tsI (tgt := 49) hO dX4_tell_1 hc (by decide) (by decide) rfl (by decide) ?_
      refine r_aload_n (i := 0) hO rfl rfl dX4_tell_49 ?_
      refine gX4_19 hO hb dX4_tell_50 ?_
      exact r_iret hO hR dX4_tell_53
    · refine r_if (fun hc => ?_) (fun hc2 => ?_)
      · refine r_tsI (tgt := 54) hO dX4_tell_1 hc (by decide) (by decide) rfl (by decide) ?_
        refine r_aload_n (i := 0) hO rfl rfl dX4_tell_54 ?_
        refine gX4_22 hO hb dX4_tell_55 ?_
        exact r_iret hO hR dX4_tell_58
      · refine r_if (fun hc => ?_) (fun hc3 => ?_)
        · refine r_tsI (tgt := 59) hO dX4_tell_1 hc (by decide) (by decide) rfl (by decide) ?_
          refine r_aload_n (i := 0) hO rfl rfl dX4_tell_59 ?_
          refine gX4_25 hO hb dX4_tell_60 ?_
          exact r_iret hO hR dX4_tell_63
        · refine r_if (fun hc => ?_) (fun hc4 => ?_)
          · refine r_tsI (tgt := 64) hO dX4_tell_1 hc (by decide) (by decide) rfl (by decide) ?_
            refine r_aload_n (i := 0) hO rfl rfl dX4_tell_64 ?_
            refine gX4_28 hO hb dX4_tell_65 ?_
            exact r_iret hO hR dX4_tell_68
          · refine r_if (fun hc => ?_) (fun hc5 => ?_)
            · refine r_tsI (tgt := 69) hO dX4_tell_1 hc (by decide) (by decide) rfl (by decide) ?_
              refine r_aload_n (i := 0) hO rfl rfl dX4_tell_69 ?_
              refine gX4_31 hO hb dX4_tell_70 ?_
              exact r_iret hO hR dX4_tell_73
            · refine r_if (fun hc => ?_) (fun hc6 => ?_)
              · refine r_tsI (tgt := 74) hO dX4_tell_1 hc (by decide) (by decide) rfl (by decide) ?_
                refine r_aload_n (i := 0) hO rfl rfl dX4_tell_74 ?_
                refine r_aload_n (i := 1) hO rfl rfl dX4_tell_75 ?_
                refine k_X4_isOver hO hb hm1 a_207 rfl ⟨rfl, rfl, Nat.le_refl _, Nat.le_refl _⟩ dX4_tell_76 ?_
                intro r1 σ2
                refine r_if_eq (tgt := 86) hO dX4_tell_79 (by decide) ?_ ?_
                · refine r_iconst hO ci_0 dX4_tell_86 ?_
                  exact r_jmp (b_X4_tell_87 hO hR hb hm1 (0 : Int32) σ2) lsub_n
                · refine r_iconst hO ci_1 dX4_tell_82 ?_
                  refine r_goto (tgt := 87) hO dX4_tell_83 (by decide) ?_
                  exact r_jmp (b_X4_tell_87 hO hR hb hm1 (1 : Int32) σ2) lsub_n
              · have h_0 := ne_i (n := 0) hc0 rfl
                have h_1 := ne_i (n := 1) hc1 rfl
                have h_2 := ne_i (n := 2) hc2 rfl
                have h_3 := ne_i (n := 3) hc3 rfl
                have h_4 := ne_i (n := 4) hc4 rfl
                have h_5 := ne_i (n := 5) hc5 rfl
                have h_6 := ne_i (n := 6) hc6 rfl
                refine r_tsO (tgt := 88) hO dX4_tell_1 (by omega) (by decide) ?_
                refine r_aload_n (i := 1) hO rfl rfl dX4_tell_88 ?_
                refine gX4_95 hO hm1 dX4_tell_89 ?_
                refine r_aload_n (i := 0) hO rfl rfl dX4_tell_92 ?_
                refine gX4_34 hO hb dX4_tell_93 ?_
                refine r_isub hO dX4_tell_96 ?_
                exact r_iret hO hR dX4_tell_97
theorem c_X4_tell {l : Launch} {G : Gh} {b : Nat} {m1 : Nat} (hb : isR b) (hm1 : isM m1) (a2 : Int32) (σ : Wd) : Con l G yX4_tell cX4_tell 3 (some .int) 4 92 [.ref (G.A b), .ref (G.A m1), .int a2] σ (f_X4_tell b m1 a2 σ) := Con.of (plainFor_of_name (by decide)) rfl (Nat.le_of_ble_eq_true rfl) (fun K hl hG hO hR => by subst hl; subst hG; exact b_X4_tell hO hR hb hm1 a2 σ)
theorem cal_X4_tell : CalV yX4_tell cX4_tell 3 (some .int) 2 := ⟨a_208, a_209, a_210, a_149, by decide, by decide, by decide +kernel⟩
theorem k_X4_tell {K : Kt} {nL : Nat} {cs : Nat × Nat} {σ : Wd} {pc : Nat} {lv : List (Nat × Value)} {st : List Value} {cc : ByteArray} {own : String} {rm : Room} {index : Nat} {g : Int32 → Wd → Option (Int32 × Wd)} {b : Nat} {m1 : Nat} {a2 : Int32} (hO : Ok K cc own nL rm) (hb : isR b) (hm1 : isM m1) (hl : Cond.methodLink own index yX4_tell ∈ gtb) (hcat : Nat.ble ((st.map fun v => v.category).sum) 8 = true) (hR : RoomOk rm cs 4 92 3) (d : decode cc pc = .ok (.invokevirtual index, 3)) (kk : ∀ (r : Int32) (σ : Wd), Cm K nL cs (g r σ) σ (pc + 3) lv (.int r :: st)) : Cm K nL cs (bd (f_X4_tell b m1 a2 σ) g) σ pc lv (.int a2 :: .ref (K.G.A m1) :: .ref (K.G.A b) :: st) := r_cVi hO (c_X4_tell hb hm1 a2 σ) cal_X4_tell hl rfl (isR_lt hb) (ent_X4 hb) rfl rfl hcat hR d kk
/-! OrderSplit_Run.tellPart -/
def f_X4_tellPart_106 (b : Nat)  (s0 : Int32) (σ : Wd) : Option (Int32 × Wd) := some (s0, σ)
def f_X4_tellPart (b : Nat) (a1 : Int32) (a2 : Int32) (σ : Wd) : Option (Int32 × Wd) := if a2 = (0 : Int32) then (gd (inb a1 5) (some (σ.1 (b + 1) (ix a1), σ))) else (if a2 = (1 : Int32) then (gd (inb a1 5) (some (σ.1 (b + 2) (ix a1), σ))) else (if a2 = (2 : Int32) then (gd (inb a1 5) (some (σ.1 (b + 3) (ix a1), σ))) else (if a2 = (3 : Int32) then (gd (inb a1 5) (some (σ.1 (b + 5) (ix a1), σ))) else (if a2 = (4 : Int32) then (gd (inb a1 5) (some (σ.1 (b + 6) (ix a1), σ))) else (if a2 = (5 : Int32) then (gd (inb a1 5) (some (σ.1 (b + 7) (ix a1), σ))) else (gd (inb a1 5) (if (σ.1 (b + 8) (ix a1)) ≤ (σ.1 b 1) then (f_X4_tellPart_106 b (-2 : Int32) σ) else (gd (inb a1 5) ((f_X4_tellPart_106 b (σ.1 (b + 8) (ix a1)) σ))))))))))
set_option maxRecDepth 20000 in
set_option maxHeartbeats 1000000 in
theorem b_X4_tellPart_106 {K : Kt} {b : Nat}  (hO : Ok K cX4_tellPart RX4 3 rm_X4_tellPart) (hR : Rt K (some .int)) (hb : isR b)  (s0 : Int32) (σ : Wd)  : Cm K 3 (0, 0) (f_X4_tellPart_106 b s0 σ) σ 106 [] [.int s0] := by
  exact r_iret hO hR dX4_tellPart_106
set_option maxRecDepth 20000 in
set_option maxHeartbeats 1000000 in
theorem b_X4_tellPart {K : Kt} {b : Nat} (hO : Ok K cX4_tellPart RX4 3 rm_X4_tellPart) (hR : Rt K (some .int)) (hb : isR b) (a1 : Int32) (a2 : Int32) (σ : Wd) : Cm K 3 (0, 0) (f_X4_tellPart b a1 a2 σ) σ 0 [(0, .ref (K.G.A b)), (1, .int a1), (2, .int a2)] [] := by
  refine r_iload_n (i := 2) hO rfl rfl dX4_tellPart_0 ?_
  refine r_if (fun hc => ?_) (fun hc0 => ?_)
  · refine r_tsI (tgt := 40) hO dX4_tellPart_1 hc (by decide) (by decide) rfl (by decide) ?_
    refine r_aload_n (i := 0) hO rfl rfl dX4_tellPart_40 ?_
    refine gX4_37 hO hb dX4_tellPart_41 ?_
    refine r_iload_n (i := 1) hO rfl rfl dX4_tellPart_44 ?_
    refine r_iald hO (sR_1 hb) dX4_tellPart_45 ?_
    exact r_iret hO hR dX4_tellPart_46
  · refine r_if (fun hc => ?_) (fun hc1 => ?_)
    · refine r_tsI (tgt := 47) hO dX4_tellPart_1 hc (by decide) (by decide) rfl (by decide) ?_
      refine r_aload_n (i := 0) hO rfl rfl dX4_tellPart_47 ?_
      refine gX4_41 hO hb dX4_tellPart_48 ?_
      refine r_iload_n (i := 1) hO rfl rfl dX4_tellPart_51 ?_
      refine r_iald hO (sR_2 hb) dX4_tellPart_52 ?_
      exact r_iret hO hR dX4_tellPart_53
    · refine r_if (fun hc => ?_) (fun hc2 => ?_)
      · refine r_tsI (tgt := 54) hO dX4_tellPart_1 hc (by decide) (by decide) rfl (by decide) ?_
        refine r_aload_n (i := 0) hO rfl rfl dX4_tellPart_54 ?_
        refine gX4_44 hO hb dX4_tellPart_55 ?_
        refine r_iload_n (i := 1) hO rfl rfl dX4_tellPart_58 ?_
        refine r_iald hO (sR_3 hb) dX4_tellPart_59 ?_
        exact r_iret hO hR dX4_tellPart_60
      · refine r_if (fun hc => ?_) (fun hc3 => ?_)
        · refine r_tsI (tgt := 61) hO dX4_tellPart_1 hc (by decide) (by decide) rfl (by decide) ?_
          refine r_aload_n (i := 0) hO rfl rfl dX4_tellPart_61 ?_
          refine gX4_50 hO hb dX4_tellPart_62 ?_
          refine r_iload_n (i := 1) hO rfl rfl dX4_tellPart_65 ?_
          refine r_iald hO (sR_5 hb) dX4_tellPart_66 ?_
          exact r_iret hO hR dX4_tellPart_67
        · refine r_if (fun hc => ?_) (fun hc4 => ?_)
          · refine r_tsI (tgt := 68) hO dX4_tellPart_1 hc (by decide) (by decide) rfl (by decide) ?_
            refine r_aload_n (i := 0) hO rfl rfl dX4_tellPart_68 ?_
            refine gX4_53 hO hb dX4_tellPart_69 ?_
            refine r_iload_n (i := 1) hO rfl rfl dX4_tellPart_72 ?_
            refine r_iald hO (sR_6 hb) dX4_tellPart_73 ?_
            exact r_iret hO hR dX4_tellPart_74
          · refine r_if (fun hc => ?_) (fun hc5 => ?_)
            · refine r_tsI (tgt := 75) hO dX4_tellPart_1 hc (by decide) (by decide) rfl (by decide) ?_
              refine r_aload_n (i := 0) hO rfl rfl dX4_tellPart_75 ?_
              refine gX4_56 hO hb dX4_tellPart_76 ?_
              refine r_iload_n (i := 1) hO rfl rfl dX4_tellPart_79 ?_
              refine r_iald hO (sR_7 hb) dX4_tellPart_80 ?_
              exact r_iret hO hR dX4_tellPart_81
            · have h_0 := ne_i (n := 0) hc0 rfl
              have h_1 := ne_i (n := 1) hc1 rfl
              have h_2 := ne_i (n := 2) hc2 rfl
              have h_3 := ne_i (n := 3) hc3 rfl
              have h_4 := ne_i (n := 4) hc4 rfl
              have h_5 := ne_i (n := 5) hc5 rfl
              refine r_tsO (tgt := 82) hO dX4_tellPart_1 (by omega) (by decide) ?_
              refine r_aload_n (i := 0) hO rfl rfl dX4_tellPart_82 ?_
              refine gX4_59 hO hb dX4_tellPart_83 ?_
              refine r_iload_n (i := 1) hO rfl rfl dX4_tellPart_86 ?_
              refine r_iald hO (sR_8 hb) dX4_tellPart_87 ?_
              refine r_aload_n (i := 0) hO rfl rfl dX4_tellPart_88 ?_
              refine gX4_15 hO hb dX4_tellPart_89 ?_
              refine r_icmp_le (tgt := 104) hO dX4_tellPart_92 (by decide) ?_ ?_
              · refine r_bipush hO bi_m2 dX4_tellPart_104 ?_
                exact r_jmp (b_X4_tellPart_106 hO hR hb (-2 : Int32) σ) lsub_n
              · refine r_aload_n (i := 0) hO rfl rfl dX4_tellPart_95 ?_
                refine gX4_59 hO hb dX4_tellPart_96 ?_
                refine r_iload_n (i := 1) hO rfl rfl dX4_tellPart_99 ?_
                refine r_iald hO (sR_8 hb) dX4_tellPart_100 ?_
                refine r_goto (tgt := 106) hO dX4_tellPart_101 (by decide) ?_
                exact r_jmp (b_X4_tellPart_106 hO hR hb (σ.1 (b + 8) (ix a1)) σ) lsub_n
theorem c_X4_tellPart {l : Launch} {G : Gh} {b : Nat} (hb : isR b) (a1 : Int32) (a2 : Int32) (σ : Wd) : Con l G yX4_tellPart cX4_tellPart 3 (some .int) 0 0 [.ref (G.A b), .int a1, .int a2] σ (f_X4_tellPart b a1 a2 σ) := Con.of (plainFor_of_name (by decide)) rfl (Nat.le_of_ble_eq_true rfl) (fun K hl hG hO hR => by subst hl; subst hG; exact b_X4_tellPart hO hR hb a1 a2 σ)
theorem cal_X4_tellPart : CalV yX4_tellPart cX4_tellPart 3 (some .int) 2 := ⟨a_211, a_212, a_213, a_149, by decide, by decide, by decide +kernel⟩
theorem k_X4_tellPart {K : Kt} {nL : Nat} {cs : Nat × Nat} {σ : Wd} {pc : Nat} {lv : List (Nat × Value)} {st : List Value} {cc : ByteArray} {own : String} {rm : Room} {index : Nat} {g : Int32 → Wd → Option (Int32 × Wd)} {b : Nat} {a1 : Int32} {a2 : Int32} (hO : Ok K cc own nL rm) (hb : isR b) (hl : Cond.methodLink own index yX4_tellPart ∈ gtb) (hcat : Nat.ble ((st.map fun v => v.category).sum) 8 = true) (hR : RoomOk rm cs 0 0 3) (d : decode cc pc = .ok (.invokevirtual index, 3)) (kk : ∀ (r : Int32) (σ : Wd), Cm K nL cs (g r σ) σ (pc + 3) lv (.int r :: st)) : Cm K nL cs (bd (f_X4_tellPart b a1 a2 σ) g) σ pc lv (.int a2 :: .int a1 :: .ref (K.G.A b) :: st) := r_cVi hO (c_X4_tellPart hb a1 a2 σ) cal_X4_tellPart hl rfl (isR_lt hb) (ent_X4 hb) rfl rfl hcat hR d kk

/-! OrderSplit.feed -/
def f_X6_feed (a1 : Int32) (a2 : Int32) (a3 : Int32) (a4 : Int32) (a5 : Int32) (σ : Wd) : Option (Int32 × Wd) := if (σ.1 1 0) ≤ (880 : Int32) then (bd (f_X5_put a1 σ) fun _ σ1 => bd (f_X5_put a2 σ1) fun _ σ2 => bd (f_X5_put a3 σ2) fun _ σ3 => bd (f_X5_put a4 σ3) fun _ σ4 => bd (f_X5_put a5 σ4) fun _ σ5 => some (σ5.1 1 0, σ5)) else (some ((-1 : Int32), σ))
set_option maxRecDepth 20000 in
set_option maxHeartbeats 1000000 in
theorem b_X6_feed {K : Kt}  (hO : Ok K cX6_feed RX6 6 rm_X6_feed) (hR : Rt K (some .int))  (a1 : Int32) (a2 : Int32) (a3 : Int32) (a4 : Int32) (a5 : Int32) (σ : Wd) : Cm K 6 (0, 0) (f_X6_feed a1 a2 a3 a4 a5 σ) σ 0 [(0, .ref (K.G.A 0)), (1, .int a1), (2, .int a2), (3, .int a3), (4, .int a4), (5, .int a5)] [] := by
  refine r_aload_n (i := 0) hO rfl rfl dX6_feed_0 ?_
  refine gX6_12 hO dX6_feed_1 ?_
  refine gX6_75 hO dX6_feed_4 ?_
  refine r_sipush hO si_880 dX6_feed_7 ?_
  refine r_icmp_le (tgt := 15) hO dX6_feed_10 (by decide) ?_ ?_
  · refine r_aload_n (i := 0) hO rfl rfl dX6_feed_15 ?_
    refine gX6_12 hO dX6_feed_16 ?_
    refine r_iload_n (i := 1) hO rfl rfl dX6_feed_19 ?_
    refine k_X5_put hO a_296 rfl ⟨rfl, rfl, Nat.le_refl _, Nat.le_refl _⟩ dX6_feed_20 ?_
    intro _ σ1
    refine r_aload_n (i := 0) hO rfl rfl dX6_feed_23 ?_
    refine gX6_12 hO dX6_feed_24 ?_
    refine r_iload_n (i := 2) hO rfl rfl dX6_feed_27 ?_
    refine k_X5_put hO a_296 rfl ⟨rfl, rfl, Nat.le_refl _, Nat.le_refl _⟩ dX6_feed_28 ?_
    intro _ σ2
    refine r_aload_n (i := 0) hO rfl rfl dX6_feed_31 ?_
    refine gX6_12 hO dX6_feed_32 ?_
    refine r_iload_n (i := 3) hO rfl rfl dX6_feed_35 ?_
    refine k_X5_put hO a_296 rfl ⟨rfl, rfl, Nat.le_refl _, Nat.le_refl _⟩ dX6_feed_36 ?_
    intro _ σ3
    refine r_aload_n (i := 0) hO rfl rfl dX6_feed_39 ?_
    refine gX6_12 hO dX6_feed_40 ?_
    refine r_iload hO (d := dX6_feed_43) rfl ?_
    refine k_X5_put hO a_296 rfl ⟨rfl, rfl, Nat.le_refl _, Nat.le_refl _⟩ dX6_feed_45 ?_
    intro _ σ4
    refine r_aload_n (i := 0) hO rfl rfl dX6_feed_48 ?_
    refine gX6_12 hO dX6_feed_49 ?_
    refine r_iload hO (d := dX6_feed_52) rfl ?_
    refine k_X5_put hO a_296 rfl ⟨rfl, rfl, Nat.le_refl _, Nat.le_refl _⟩ dX6_feed_54 ?_
    intro _ σ5
    refine r_aload_n (i := 0) hO rfl rfl dX6_feed_57 ?_
    refine gX6_12 hO dX6_feed_58 ?_
    refine gX6_75 hO dX6_feed_61 ?_
    exact r_iret hO hR dX6_feed_64
  · refine r_iconst hO ci_m1 dX6_feed_13 ?_
    exact r_iret hO hR dX6_feed_14
theorem c_X6_feed {l : Launch} {G : Gh}   (a1 : Int32) (a2 : Int32) (a3 : Int32) (a4 : Int32) (a5 : Int32) (σ : Wd) : Con l G yX6_feed cX6_feed 6 (some .int) 1 22 [.ref (G.A 0), .int a1, .int a2, .int a3, .int a4, .int a5] σ (f_X6_feed a1 a2 a3 a4 a5 σ) := Con.of (plainFor_of_name (by decide)) rfl (Nat.le_of_ble_eq_true rfl) (fun K hl hG hO hR => by subst hl; subst hG; exact b_X6_feed hO hR  a1 a2 a3 a4 a5 σ)
theorem cal_X6_feed : CalV yX6_feed cX6_feed 6 (some .int) 5 := ⟨a_297, a_298, a_299, a_2, by decide, by decide, by decide +kernel⟩
theorem k_X6_feed {K : Kt} {nL : Nat} {cs : Nat × Nat} {σ : Wd} {pc : Nat} {lv : List (Nat × Value)} {st : List Value} {cc : ByteArray} {own : String} {rm : Room} {index : Nat} {g : Int32 → Wd → Option (Int32 × Wd)} {a1 : Int32} {a2 : Int32} {a3 : Int32} {a4 : Int32} {a5 : Int32} (hO : Ok K cc own nL rm)  (hl : Cond.methodLink own index yX6_feed ∈ gtb) (hcat : Nat.ble ((st.map fun v => v.category).sum) 8 = true) (hR : RoomOk rm cs 1 22 6) (d : decode cc pc = .ok (.invokevirtual index, 3)) (kk : ∀ (r : Int32) (σ : Wd), Cm K nL cs (g r σ) σ (pc + 3) lv (.int r :: st)) : Cm K nL cs (bd (f_X6_feed a1 a2 a3 a4 a5 σ) g) σ pc lv (.int a5 :: .int a4 :: .int a3 :: .int a2 :: .int a1 :: .ref (K.G.A 0) :: st) := r_cVi hO (c_X6_feed  a1 a2 a3 a4 a5 σ) cal_X6_feed hl rfl (by decide) ent_X6 rfl rfl hcat hR d kk
/-! OrderSplit.split -/
def f_X6_split_15    (σ : Wd) : Option (Int32 × Wd) := nmW (wi σ 0 12 (2 : Int32)) fun σ1 => some ((-1 : Int32), σ1)
def f_X6_split (a1 : Int32) (σ : Wd) : Option (Int32 × Wd) := if a1 < 0 then (f_X6_split_15 σ) else (if a1 ≤ (σ.1 1 0) then (gd (bM (σ.2.2 0 3)) (bd (f_X5_readInto (σ.2.2 0 3) a1 σ) fun r2 σ3 => nmW (wi σ3 1 0 (0 : Int32)) fun σ4 => nmW (wi σ4 0 13 (σ4.1 1 1)) fun σ5 => if r2 = 0 then (nmW (wi σ5 0 12 (4 : Int32)) fun σ6 => some ((-1 : Int32), σ6)) else (gd (bM (σ5.2.2 0 3)) (gd (bM (σ5.2.2 0 4)) (nmW (wr σ5 0 3 (σ5.2.2 0 4)) fun σ9 => nmW (wr σ9 0 4 (σ5.2.2 0 3)) fun σ10 => bd (f_X4_clear 63 σ10) fun _ σ11 => gd (isb (1 : Int32)) (nmW (wi σ11 0 10 (1 : Int32)) fun σ12 => gd (isb (0 : Int32)) (nmW (wi σ12 0 11 (0 : Int32)) fun σ13 => nmW (wi σ13 0 12 (0 : Int32)) fun σ14 => gd (bM (σ14.2.2 0 4)) (some (σ14.1 (σ14.2.2 0 4) 3, σ14))))))))) else (f_X6_split_15 σ))
set_option maxRecDepth 20000 in
set_option maxHeartbeats 1000000 in
theorem b_X6_split_15 {K : Kt}   (hO : Ok K cX6_split RX6 4 rm_X6_split) (hR : Rt K (some .int))    (σ : Wd)  : Cm K 4 (0, 0) (f_X6_split_15   σ) σ 15 [(0, .ref (K.G.A 0))] [] := by
  refine r_aload_n (i := 0) hO rfl rfl dX6_split_15 ?_
  refine r_iconst hO ci_2 dX6_split_16 ?_
  refine pX6_68 hO dX6_split_17 ?_
  refine r_nmW fun σ1 => ?_
  refine r_iconst hO ci_m1 dX6_split_20 ?_
  exact r_iret hO hR dX6_split_21
set_option maxRecDepth 20000 in
set_option maxHeartbeats 1000000 in
theorem b_X6_split {K : Kt}  (hO : Ok K cX6_split RX6 4 rm_X6_split) (hR : Rt K (some .int))  (a1 : Int32) (σ : Wd) : Cm K 4 (0, 0) (f_X6_split a1 σ) σ 0 [(0, .ref (K.G.A 0)), (1, .int a1)] [] := by
  refine r_iload_n (i := 1) hO rfl rfl dX6_split_0 ?_
  refine r_if_lt (tgt := 15) hO dX6_split_1 (by decide) ?_ ?_
  · exact r_jmp (b_X6_split_15 hO hR σ) (lsub_c rfl lsub_n)
  · refine r_iload_n (i := 1) hO rfl rfl dX6_split_4 ?_
    refine r_aload_n (i := 0) hO rfl rfl dX6_split_5 ?_
    refine gX6_12 hO dX6_split_6 ?_
    refine gX6_75 hO dX6_split_9 ?_
    refine r_icmp_le (tgt := 22) hO dX6_split_12 (by decide) ?_ ?_
    · refine r_aload_n (i := 0) hO rfl rfl dX6_split_22 ?_
      refine gX6_12 hO dX6_split_23 ?_
      refine r_aload_n (i := 0) hO rfl rfl dX6_split_26 ?_
      refine r_gd fun h1 => ?_
      refine gX6_35 hO dX6_split_27 ?_
      refine r_iload_n (i := 1) hO rfl rfl dX6_split_30 ?_
      refine k_X5_readInto hO (bM_is h1) a_300 rfl ⟨rfl, rfl, Nat.le_refl _, Nat.le_refl _⟩ dX6_split_31 ?_
      intro r2 σ3
      refine r_istore_n (i := 2) hO rfl rfl rfl dX6_split_34 ?_
      refine r_aload_n (i := 0) hO rfl rfl dX6_split_35 ?_
      refine gX6_12 hO dX6_split_36 ?_
      refine r_iconst hO ci_0 dX6_split_39 ?_
      refine pX6_75 hO dX6_split_40 ?_
      refine r_nmW fun σ4 => ?_
      refine r_aload_n (i := 0) hO rfl rfl dX6_split_43 ?_
      refine r_aload_n (i := 0) hO rfl rfl dX6_split_44 ?_
      refine gX6_12 hO dX6_split_45 ?_
      refine gX6_86 hO dX6_split_48 ?_
      refine pX6_72 hO dX6_split_51 ?_
      refine r_nmW fun σ5 => ?_
      refine r_iload_n (i := 2) hO rfl rfl dX6_split_54 ?_
      refine r_if_ne (tgt := 65) hO dX6_split_55 (by decide) ?_ ?_
      · refine r_aload_n (i := 0) hO rfl rfl dX6_split_58 ?_
        refine r_iconst hO ci_4 dX6_split_59 ?_
        refine pX6_68 hO dX6_split_60 ?_
        refine r_nmW fun σ6 => ?_
        refine r_iconst hO ci_m1 dX6_split_63 ?_
        exact r_iret hO hR dX6_split_64
      · refine r_aload_n (i := 0) hO rfl rfl dX6_split_65 ?_
        refine r_gd fun h7 => ?_
        refine gX6_35 hO dX6_split_66 ?_
        refine r_astore_n (i := 3) hO rfl rfl rfl dX6_split_69 ?_
        refine r_aload_n (i := 0) hO rfl rfl dX6_split_70 ?_
        refine r_aload_n (i := 0) hO rfl rfl dX6_split_71 ?_
        refine r_gd fun h8 => ?_
        refine gX6_39 hO dX6_split_72 ?_
        refine pX6_35 hO dX6_split_75 ?_
        refine r_nmW fun σ9 => ?_
        refine r_aload_n (i := 0) hO rfl rfl dX6_split_78 ?_
        refine r_aload_n (i := 3) hO rfl rfl dX6_split_79 ?_
        refine pX6_39 hO dX6_split_80 ?_
        refine r_nmW fun σ10 => ?_
        refine r_aload_n (i := 0) hO rfl rfl dX6_split_83 ?_
        refine gX6_51 hO dX6_split_84 ?_
        refine k_X4_clear hO iR63 a_301 rfl ⟨rfl, rfl, Nat.le_refl _, Nat.le_refl _⟩ dX6_split_87 ?_
        intro _ σ11
        refine r_aload_n (i := 0) hO rfl rfl dX6_split_90 ?_
        refine r_iconst hO ci_1 dX6_split_91 ?_
        refine pX6_61 hO dX6_split_92 ?_
        refine r_nmW fun σ12 => ?_
        refine r_aload_n (i := 0) hO rfl rfl dX6_split_95 ?_
        refine r_iconst hO ci_0 dX6_split_96 ?_
        refine pX6_65 hO dX6_split_97 ?_
        refine r_nmW fun σ13 => ?_
        refine r_aload_n (i := 0) hO rfl rfl dX6_split_100 ?_
        refine r_iconst hO ci_0 dX6_split_101 ?_
        refine pX6_68 hO dX6_split_102 ?_
        refine r_nmW fun σ14 => ?_
        refine r_aload_n (i := 0) hO rfl rfl dX6_split_105 ?_
        refine r_gd fun h15 => ?_
        refine gX6_39 hO dX6_split_106 ?_
        refine gX6_92 hO (bM_is h15) dX6_split_109 ?_
        exact r_iret hO hR dX6_split_112
    · exact r_jmp (b_X6_split_15 hO hR σ) (lsub_c rfl lsub_n)
theorem c_X6_split {l : Launch} {G : Gh}   (a1 : Int32) (σ : Wd) : Con l G yX6_split cX6_split 4 (some .int) 11 237 [.ref (G.A 0), .int a1] σ (f_X6_split a1 σ) := Con.of (plainFor_of_name (by decide)) rfl (Nat.le_of_ble_eq_true rfl) (fun K hl hG hO hR => by subst hl; subst hG; exact b_X6_split hO hR  a1 σ)
theorem cal_X6_split : CalV yX6_split cX6_split 4 (some .int) 1 := ⟨a_302, a_303, a_304, a_2, by decide, by decide, by decide +kernel⟩
theorem k_X6_split {K : Kt} {nL : Nat} {cs : Nat × Nat} {σ : Wd} {pc : Nat} {lv : List (Nat × Value)} {st : List Value} {cc : ByteArray} {own : String} {rm : Room} {index : Nat} {g : Int32 → Wd → Option (Int32 × Wd)} {a1 : Int32} (hO : Ok K cc own nL rm)  (hl : Cond.methodLink own index yX6_split ∈ gtb) (hcat : Nat.ble ((st.map fun v => v.category).sum) 8 = true) (hR : RoomOk rm cs 11 237 4) (d : decode cc pc = .ok (.invokevirtual index, 3)) (kk : ∀ (r : Int32) (σ : Wd), Cm K nL cs (g r σ) σ (pc + 3) lv (.int r :: st)) : Cm K nL cs (bd (f_X6_split a1 σ) g) σ pc lv (.int a1 :: .ref (K.G.A 0) :: st) := r_cVi hO (c_X6_split  a1 σ) cal_X6_split hl rfl (by decide) ent_X6 rfl rfl hcat hR d kk
/-! OrderSplit.fault -/
def f_X6_fault  (σ : Wd) : Option (Int32 × Wd) := some (σ.1 0 13, σ)
set_option maxRecDepth 20000 in
set_option maxHeartbeats 1000000 in
theorem b_X6_fault {K : Kt}  (hO : Ok K cX6_fault RX6 1 rm_X6_fault) (hR : Rt K (some .int))   (σ : Wd) : Cm K 1 (0, 0) (f_X6_fault  σ) σ 0 [(0, .ref (K.G.A 0))] [] := by
  refine r_aload_n (i := 0) hO rfl rfl dX6_fault_0 ?_
  refine gX6_72 hO dX6_fault_1 ?_
  exact r_iret hO hR dX6_fault_4
theorem c_X6_fault {l : Launch} {G : Gh}    (σ : Wd) : Con l G yX6_fault cX6_fault 1 (some .int) 0 0 [.ref (G.A 0)] σ (f_X6_fault  σ) := Con.of (plainFor_of_name (by decide)) rfl (Nat.le_of_ble_eq_true rfl) (fun K hl hG hO hR => by subst hl; subst hG; exact b_X6_fault hO hR   σ)
theorem cal_X6_fault : CalV yX6_fault cX6_fault 1 (some .int) 0 := ⟨a_305, a_306, a_307, a_2, by decide, by decide, by decide +kernel⟩
theorem k_X6_fault {K : Kt} {nL : Nat} {cs : Nat × Nat} {σ : Wd} {pc : Nat} {lv : List (Nat × Value)} {st : List Value} {cc : ByteArray} {own : String} {rm : Room} {index : Nat} {g : Int32 → Wd → Option (Int32 × Wd)}  (hO : Ok K cc own nL rm)  (hl : Cond.methodLink own index yX6_fault ∈ gtb) (hcat : Nat.ble ((st.map fun v => v.category).sum) 8 = true) (hR : RoomOk rm cs 0 0 1) (d : decode cc pc = .ok (.invokevirtual index, 3)) (kk : ∀ (r : Int32) (σ : Wd), Cm K nL cs (g r σ) σ (pc + 3) lv (.int r :: st)) : Cm K nL cs (bd (f_X6_fault  σ) g) σ pc lv (.ref (K.G.A 0) :: st) := r_cVi hO (c_X6_fault   σ) cal_X6_fault hl rfl (by decide) ent_X6 rfl rfl hcat hR d kk
/-! OrderSplit.where -/
def f_X6_where_19   (s0 : Int32) (σ : Wd) : Option (Int32 × Wd) := some (s0, σ)
def f_X6_where  (σ : Wd) : Option (Int32 × Wd) := if (σ.1 0 12) = (4 : Int32) then (f_X6_where_19 (σ.1 1 2) σ) else (f_X6_where_19 (-1 : Int32) σ)
set_option maxRecDepth 20000 in
set_option maxHeartbeats 1000000 in
theorem b_X6_where_19 {K : Kt}   (hO : Ok K cX6_where RX6 1 rm_X6_where) (hR : Rt K (some .int))   (s0 : Int32) (σ : Wd)  : Cm K 1 (0, 0) (f_X6_where_19  s0 σ) σ 19 [] [.int s0] := by
  exact r_iret hO hR dX6_where_19
set_option maxRecDepth 20000 in
set_option maxHeartbeats 1000000 in
theorem b_X6_where {K : Kt}  (hO : Ok K cX6_where RX6 1 rm_X6_where) (hR : Rt K (some .int))   (σ : Wd) : Cm K 1 (0, 0) (f_X6_where  σ) σ 0 [(0, .ref (K.G.A 0))] [] := by
  refine r_aload_n (i := 0) hO rfl rfl dX6_where_0 ?_
  refine gX6_68 hO dX6_where_1 ?_
  refine r_iconst hO ci_4 dX6_where_4 ?_
  refine r_icmp_ne (tgt := 18) hO dX6_where_5 (by decide) ?_ ?_
  · refine r_aload_n (i := 0) hO rfl rfl dX6_where_8 ?_
    refine gX6_12 hO dX6_where_9 ?_
    refine gX6_95 hO dX6_where_12 ?_
    refine r_goto (tgt := 19) hO dX6_where_15 (by decide) ?_
    exact r_jmp (b_X6_where_19 hO hR (σ.1 1 2) σ) lsub_n
  · refine r_iconst hO ci_m1 dX6_where_18 ?_
    exact r_jmp (b_X6_where_19 hO hR (-1 : Int32) σ) lsub_n
theorem c_X6_where {l : Launch} {G : Gh}    (σ : Wd) : Con l G yX6_where cX6_where 1 (some .int) 0 0 [.ref (G.A 0)] σ (f_X6_where  σ) := Con.of (plainFor_of_name (by decide)) rfl (Nat.le_of_ble_eq_true rfl) (fun K hl hG hO hR => by subst hl; subst hG; exact b_X6_where hO hR   σ)
theorem cal_X6_where : CalV yX6_where cX6_where 1 (some .int) 0 := ⟨a_308, a_309, a_310, a_2, by decide, by decide, by decide +kernel⟩
theorem k_X6_where {K : Kt} {nL : Nat} {cs : Nat × Nat} {σ : Wd} {pc : Nat} {lv : List (Nat × Value)} {st : List Value} {cc : ByteArray} {own : String} {rm : Room} {index : Nat} {g : Int32 → Wd → Option (Int32 × Wd)}  (hO : Ok K cc own nL rm)  (hl : Cond.methodLink own index yX6_where ∈ gtb) (hcat : Nat.ble ((st.map fun v => v.category).sum) 8 = true) (hR : RoomOk rm cs 0 0 1) (d : decode cc pc = .ok (.invokevirtual index, 3)) (kk : ∀ (r : Int32) (σ : Wd), Cm K nL cs (g r σ) σ (pc + 3) lv (.int r :: st)) : Cm K nL cs (bd (f_X6_where  σ) g) σ pc lv (.ref (K.G.A 0) :: st) := r_cVi hO (c_X6_where   σ) cal_X6_where hl rfl (by decide) ent_X6 rfl rfl hcat hR d kk
/-! OrderSplit.within -/
def f_X6_within_15   (s0 : Int32) (σ : Wd) : Option (Int32 × Wd) := gd (isb s0) (some (s0, σ))
def f_X6_within_14    (σ : Wd) : Option (Int32 × Wd) := (f_X6_within_15 (0 : Int32) σ)
def f_X6_within (a0 : Int32) (a1 : Int32) (a2 : Int32) (σ : Wd) : Option (Int32 × Wd) := if a0 < a1 then (f_X6_within_14 σ) else (if a2 < a0 then (f_X6_within_14 σ) else (f_X6_within_15 (1 : Int32) σ))
set_option maxRecDepth 20000 in
set_option maxHeartbeats 1000000 in
theorem b_X6_within_15 {K : Kt}   (hO : Ok K cX6_within RX6 3 rm_X6_within) (hR : Rt K (some .boolean))   (s0 : Int32) (σ : Wd)  : Cm K 3 (0, 0) (f_X6_within_15  s0 σ) σ 15 [] [.int s0] := by
  exact r_zret hO hR dX6_within_15
set_option maxRecDepth 20000 in
set_option maxHeartbeats 1000000 in
theorem b_X6_within_14 {K : Kt}   (hO : Ok K cX6_within RX6 3 rm_X6_within) (hR : Rt K (some .boolean))    (σ : Wd)  : Cm K 3 (0, 0) (f_X6_within_14   σ) σ 14 [] [] := by
  refine r_iconst hO ci_0 dX6_within_14 ?_
  exact r_jmp (b_X6_within_15 hO hR (0 : Int32) σ) lsub_n
set_option maxRecDepth 20000 in
set_option maxHeartbeats 1000000 in
theorem b_X6_within {K : Kt}  (hO : Ok K cX6_within RX6 3 rm_X6_within) (hR : Rt K (some .boolean))  (a0 : Int32) (a1 : Int32) (a2 : Int32) (σ : Wd) : Cm K 3 (0, 0) (f_X6_within a0 a1 a2 σ) σ 0 [(0, .int a0), (1, .int a1), (2, .int a2)] [] := by
  refine r_iload_n (i := 0) hO rfl rfl dX6_within_0 ?_
  refine r_iload_n (i := 1) hO rfl rfl dX6_within_1 ?_
  refine r_icmp_lt (tgt := 14) hO dX6_within_2 (by decide) ?_ ?_
  · exact r_jmp (b_X6_within_14 hO hR σ) lsub_n
  · refine r_iload_n (i := 0) hO rfl rfl dX6_within_5 ?_
    refine r_iload_n (i := 2) hO rfl rfl dX6_within_6 ?_
    refine r_icmp_gt (tgt := 14) hO dX6_within_7 (by decide) ?_ ?_
    · exact r_jmp (b_X6_within_14 hO hR σ) lsub_n
    · refine r_iconst hO ci_1 dX6_within_10 ?_
      refine r_goto (tgt := 15) hO dX6_within_11 (by decide) ?_
      exact r_jmp (b_X6_within_15 hO hR (1 : Int32) σ) lsub_n
theorem c_X6_within {l : Launch} {G : Gh}   (a0 : Int32) (a1 : Int32) (a2 : Int32) (σ : Wd) : Con l G yX6_within cX6_within 3 (some .boolean) 0 0 [.int a0, .int a1, .int a2] σ (f_X6_within a0 a1 a2 σ) := Con.of (plainFor_of_name (by decide)) rfl (Nat.le_of_ble_eq_true rfl) (fun K hl hG hO hR => by subst hl; subst hG; exact b_X6_within hO hR  a0 a1 a2 σ)
theorem cal_X6_within : CalS yX6_within cX6_within 3 (some .boolean) 3 := ⟨a_311, a_312, a_2, by decide, by decide, by decide +kernel⟩
theorem k_X6_within {K : Kt} {nL : Nat} {cs : Nat × Nat} {σ : Wd} {pc : Nat} {lv : List (Nat × Value)} {st : List Value} {cc : ByteArray} {own : String} {rm : Room} {index : Nat} {g : Int32 → Wd → Option (Int32 × Wd)} {a0 : Int32} {a1 : Int32} {a2 : Int32} (hO : Ok K cc own nL rm)  (hl : Cond.methodLink own index yX6_within ∈ gtb) (hcat : Nat.ble ((st.map fun v => v.category).sum) 8 = true) (hR : RoomOk rm cs 0 0 3) (d : decode cc pc = .ok (.invokestatic index, 3)) (kk : ∀ (r : Int32) (σ : Wd), Cm K nL cs (g r σ) σ (pc + 3) lv (.int r :: st)) : Cm K nL cs (bd (f_X6_within a0 a1 a2 σ) g) σ pc lv (.int a2 :: .int a1 :: .int a0 :: st) := r_cSi hO (c_X6_within  a0 a1 a2 σ) cal_X6_within hl rfl rfl hcat hR d kk
/-! OrderSplit.granted -/
def f_X6_granted_60   (s0 : Int32) (σ : Wd) : Option (Int32 × Wd) := gd (isb s0) (some (s0, σ))
def f_X6_granted_48    (σ : Wd) : Option (Int32 × Wd) := if (σ.1 0 12) = 0 then (f_X6_granted_60 (1 : Int32) σ) else (f_X6_granted_60 (0 : Int32) σ)
def f_X6_granted_11    (σ : Wd) : Option (Int32 × Wd) := nmW (wi σ 0 12 (1 : Int32)) fun σ1 => (f_X6_granted_48 σ1)
def f_X6_granted (a1 : Int32) (a2 : Int32) (a3 : Int32) (σ : Wd) : Option (Int32 × Wd) := if (σ.1 0 10) = 0 then (f_X6_granted_11 σ) else (if a1 = 0 then (f_X6_granted_11 σ) else (if a2 = 0 then (nmW (wi σ 0 12 (2 : Int32)) fun σ1 => (f_X6_granted_48 σ1)) else (if a3 = 0 then (nmW (wi σ 0 12 (5 : Int32)) fun σ2 => (f_X6_granted_48 σ2)) else (nmW (wi σ 0 12 (0 : Int32)) fun σ3 => (f_X6_granted_48 σ3)))))
set_option maxRecDepth 20000 in
set_option maxHeartbeats 1000000 in
theorem b_X6_granted_60 {K : Kt}   (hO : Ok K cX6_granted RX6 4 rm_X6_granted) (hR : Rt K (some .boolean))   (s0 : Int32) (σ : Wd)  : Cm K 4 (0, 0) (f_X6_granted_60  s0 σ) σ 60 [] [.int s0] := by
  exact r_zret hO hR dX6_granted_60
set_option maxRecDepth 20000 in
set_option maxHeartbeats 1000000 in
theorem b_X6_granted_48 {K : Kt}   (hO : Ok K cX6_granted RX6 4 rm_X6_granted) (hR : Rt K (some .boolean))    (σ : Wd)  : Cm K 4 (0, 0) (f_X6_granted_48   σ) σ 48 [(0, .ref (K.G.A 0))] [] := by
  refine r_aload_n (i := 0) hO rfl rfl dX6_granted_48 ?_
  refine gX6_68 hO dX6_granted_49 ?_
  refine r_if_ne (tgt := 59) hO dX6_granted_52 (by decide) ?_ ?_
  · refine r_iconst hO ci_1 dX6_granted_55 ?_
    refine r_goto (tgt := 60) hO dX6_granted_56 (by decide) ?_
    exact r_jmp (b_X6_granted_60 hO hR (1 : Int32) σ) lsub_n
  · refine r_iconst hO ci_0 dX6_granted_59 ?_
    exact r_jmp (b_X6_granted_60 hO hR (0 : Int32) σ) lsub_n
set_option maxRecDepth 20000 in
set_option maxHeartbeats 1000000 in
theorem b_X6_granted_11 {K : Kt}   (hO : Ok K cX6_granted RX6 4 rm_X6_granted) (hR : Rt K (some .boolean))    (σ : Wd)  : Cm K 4 (0, 0) (f_X6_granted_11   σ) σ 11 [(0, .ref (K.G.A 0))] [] := by
  refine r_aload_n (i := 0) hO rfl rfl dX6_granted_11 ?_
  refine r_iconst hO ci_1 dX6_granted_12 ?_
  refine pX6_68 hO dX6_granted_13 ?_
  refine r_nmW fun σ1 => ?_
  refine r_goto (tgt := 48) hO dX6_granted_16 (by decide) ?_
  exact r_jmp (b_X6_granted_48 hO hR σ1) (lsub_c rfl lsub_n)
set_option maxRecDepth 20000 in
set_option maxHeartbeats 1000000 in
theorem b_X6_granted {K : Kt}  (hO : Ok K cX6_granted RX6 4 rm_X6_granted) (hR : Rt K (some .boolean))  (a1 : Int32) (a2 : Int32) (a3 : Int32) (σ : Wd) : Cm K 4 (0, 0) (f_X6_granted a1 a2 a3 σ) σ 0 [(0, .ref (K.G.A 0)), (1, .int a1), (2, .int a2), (3, .int a3)] [] := by
  refine r_aload_n (i := 0) hO rfl rfl dX6_granted_0 ?_
  refine gX6_61 hO dX6_granted_1 ?_
  refine r_if_eq (tgt := 11) hO dX6_granted_4 (by decide) ?_ ?_
  · exact r_jmp (b_X6_granted_11 hO hR σ) (lsub_c rfl lsub_n)
  · refine r_iload_n (i := 1) hO rfl rfl dX6_granted_7 ?_
    refine r_if_ne (tgt := 19) hO dX6_granted_8 (by decide) ?_ ?_
    · exact r_jmp (b_X6_granted_11 hO hR σ) (lsub_c rfl lsub_n)
    · refine r_iload_n (i := 2) hO rfl rfl dX6_granted_19 ?_
      refine r_if_ne (tgt := 31) hO dX6_granted_20 (by decide) ?_ ?_
      · refine r_aload_n (i := 0) hO rfl rfl dX6_granted_23 ?_
        refine r_iconst hO ci_2 dX6_granted_24 ?_
        refine pX6_68 hO dX6_granted_25 ?_
        refine r_nmW fun σ1 => ?_
        refine r_goto (tgt := 48) hO dX6_granted_28 (by decide) ?_
        exact r_jmp (b_X6_granted_48 hO hR σ1) (lsub_c rfl lsub_n)
      · refine r_iload_n (i := 3) hO rfl rfl dX6_granted_31 ?_
        refine r_if_ne (tgt := 43) hO dX6_granted_32 (by decide) ?_ ?_
        · refine r_aload_n (i := 0) hO rfl rfl dX6_granted_35 ?_
          refine r_iconst hO ci_5 dX6_granted_36 ?_
          refine pX6_68 hO dX6_granted_37 ?_
          refine r_nmW fun σ2 => ?_
          refine r_goto (tgt := 48) hO dX6_granted_40 (by decide) ?_
          exact r_jmp (b_X6_granted_48 hO hR σ2) (lsub_c rfl lsub_n)
        · refine r_aload_n (i := 0) hO rfl rfl dX6_granted_43 ?_
          refine r_iconst hO ci_0 dX6_granted_44 ?_
          refine pX6_68 hO dX6_granted_45 ?_
          refine r_nmW fun σ3 => ?_
          exact r_jmp (b_X6_granted_48 hO hR σ3) (lsub_c rfl lsub_n)
theorem c_X6_granted {l : Launch} {G : Gh}   (a1 : Int32) (a2 : Int32) (a3 : Int32) (σ : Wd) : Con l G yX6_granted cX6_granted 4 (some .boolean) 0 0 [.ref (G.A 0), .int a1, .int a2, .int a3] σ (f_X6_granted a1 a2 a3 σ) := Con.of (plainFor_of_name (by decide)) rfl (Nat.le_of_ble_eq_true rfl) (fun K hl hG hO hR => by subst hl; subst hG; exact b_X6_granted hO hR  a1 a2 a3 σ)
theorem cal_X6_granted : CalV yX6_granted cX6_granted 4 (some .boolean) 3 := ⟨a_313, a_314, a_315, a_2, by decide, by decide, by decide +kernel⟩
theorem k_X6_granted {K : Kt} {nL : Nat} {cs : Nat × Nat} {σ : Wd} {pc : Nat} {lv : List (Nat × Value)} {st : List Value} {cc : ByteArray} {own : String} {rm : Room} {index : Nat} {g : Int32 → Wd → Option (Int32 × Wd)} {a1 : Int32} {a2 : Int32} {a3 : Int32} (hO : Ok K cc own nL rm)  (hl : Cond.methodLink own index yX6_granted ∈ gtb) (hcat : Nat.ble ((st.map fun v => v.category).sum) 8 = true) (hR : RoomOk rm cs 0 0 4) (d : decode cc pc = .ok (.invokevirtual index, 3)) (kk : ∀ (r : Int32) (σ : Wd), Cm K nL cs (g r σ) σ (pc + 3) lv (.int r :: st)) : Cm K nL cs (bd (f_X6_granted a1 a2 a3 σ) g) σ pc lv (.int a3 :: .int a2 :: .int a1 :: .ref (K.G.A 0) :: st) := r_cVi hO (c_X6_granted  a1 a2 a3 σ) cal_X6_granted hl rfl (by decide) ent_X6 rfl rfl hcat hR d kk
/-! OrderSplit.about -/
def f_X6_about (a1 : Int32) (σ : Wd) : Option (Int32 × Wd) := bd (f_X6_within a1 (0 : Int32) (4 : Int32) σ) fun r1 σ2 => bd (f_X6_granted r1 (1 : Int32) (1 : Int32) σ2) fun r3 σ4 => if r3 = 0 then (some ((-1 : Int32), σ4)) else (if a1 = (0 : Int32) then (gd (bM (σ4.2.2 0 4)) (some (σ4.1 (σ4.2.2 0 4) 0, σ4))) else (if a1 = (1 : Int32) then (gd (bM (σ4.2.2 0 4)) (some (σ4.1 (σ4.2.2 0 4) 1, σ4))) else (if a1 = (2 : Int32) then (gd (bM (σ4.2.2 0 4)) (some (σ4.1 (σ4.2.2 0 4) 2, σ4))) else (if a1 = (3 : Int32) then (gd (bM (σ4.2.2 0 4)) (some (σ4.1 (σ4.2.2 0 4) 3, σ4))) else (gd (bM (σ4.2.2 0 4)) (some (σ4.1 (σ4.2.2 0 4) 4, σ4)))))))
set_option maxRecDepth 20000 in
set_option maxHeartbeats 1000000 in
theorem b_X6_about {K : Kt}  (hO : Ok K cX6_about RX6 2 rm_X6_about) (hR : Rt K (some .int))  (a1 : Int32) (σ : Wd) : Cm K 2 (0, 0) (f_X6_about a1 σ) σ 0 [(0, .ref (K.G.A 0)), (1, .int a1)] [] := by
  refine r_aload_n (i := 0) hO rfl rfl dX6_about_0 ?_
  refine r_iload_n (i := 1) hO rfl rfl dX6_about_1 ?_
  refine r_iconst hO ci_0 dX6_about_2 ?_
  refine r_iconst hO ci_4 dX6_about_3 ?_
  refine k_X6_within hO a_316 rfl ⟨rfl, rfl, Nat.le_refl _, Nat.le_refl _⟩ dX6_about_4 ?_
  intro r1 σ2
  refine r_iconst hO ci_1 dX6_about_7 ?_
  refine r_iconst hO ci_1 dX6_about_8 ?_
  refine k_X6_granted hO a_317 rfl ⟨rfl, rfl, Nat.le_refl _, Nat.le_refl _⟩ dX6_about_9 ?_
  intro r3 σ4
  refine r_if_ne (tgt := 17) hO dX6_about_12 (by decide) ?_ ?_
  · refine r_iconst hO ci_m1 dX6_about_15 ?_
    exact r_iret hO hR dX6_about_16
  · refine r_iload_n (i := 1) hO rfl rfl dX6_about_17 ?_
    refine r_if (fun hc => ?_) (fun hc0 => ?_)
    · refine r_tsI (tgt := 48) hO dX6_about_18 hc (by decide) (by decide) rfl (by decide) ?_
      refine r_aload_n (i := 0) hO rfl rfl dX6_about_48 ?_
      refine r_gd fun h5 => ?_
      refine gX6_39 hO dX6_about_49 ?_
      refine gX6_106 hO (bM_is h5) dX6_about_52 ?_
      exact r_iret hO hR dX6_about_55
    · refine r_if (fun hc => ?_) (fun hc1 => ?_)
      · refine r_tsI (tgt := 56) hO dX6_about_18 hc (by decide) (by decide) rfl (by decide) ?_
        refine r_aload_n (i := 0) hO rfl rfl dX6_about_56 ?_
        refine r_gd fun h6 => ?_
        refine gX6_39 hO dX6_about_57 ?_
        refine gX6_109 hO (bM_is h6) dX6_about_60 ?_
        exact r_iret hO hR dX6_about_63
      · refine r_if (fun hc => ?_) (fun hc2 => ?_)
        · refine r_tsI (tgt := 64) hO dX6_about_18 hc (by decide) (by decide) rfl (by decide) ?_
          refine r_aload_n (i := 0) hO rfl rfl dX6_about_64 ?_
          refine r_gd fun h7 => ?_
          refine gX6_39 hO dX6_about_65 ?_
          refine gX6_112 hO (bM_is h7) dX6_about_68 ?_
          exact r_iret hO hR dX6_about_71
        · refine r_if (fun hc => ?_) (fun hc3 => ?_)
          · refine r_tsI (tgt := 72) hO dX6_about_18 hc (by decide) (by decide) rfl (by decide) ?_
            refine r_aload_n (i := 0) hO rfl rfl dX6_about_72 ?_
            refine r_gd fun h8 => ?_
            refine gX6_39 hO dX6_about_73 ?_
            refine gX6_92 hO (bM_is h8) dX6_about_76 ?_
            exact r_iret hO hR dX6_about_79
          · have h_0 := ne_i (n := 0) hc0 rfl
            have h_1 := ne_i (n := 1) hc1 rfl
            have h_2 := ne_i (n := 2) hc2 rfl
            have h_3 := ne_i (n := 3) hc3 rfl
            refine r_tsO (tgt := 80) hO dX6_about_18 (by omega) (by decide) ?_
            refine r_aload_n (i := 0) hO rfl rfl dX6_about_80 ?_
            refine r_gd fun h9 => ?_
            refine gX6_39 hO dX6_about_81 ?_
            refine gX6_115 hO (bM_is h9) dX6_about_84 ?_
            exact r_iret hO hR dX6_about_87
theorem c_X6_about {l : Launch} {G : Gh}   (a1 : Int32) (σ : Wd) : Con l G yX6_about cX6_about 2 (some .int) 1 23 [.ref (G.A 0), .int a1] σ (f_X6_about a1 σ) := Con.of (plainFor_of_name (by decide)) rfl (Nat.le_of_ble_eq_true rfl) (fun K hl hG hO hR => by subst hl; subst hG; exact b_X6_about hO hR  a1 σ)
theorem cal_X6_about : CalV yX6_about cX6_about 2 (some .int) 1 := ⟨a_318, a_319, a_320, a_2, by decide, by decide, by decide +kernel⟩
theorem k_X6_about {K : Kt} {nL : Nat} {cs : Nat × Nat} {σ : Wd} {pc : Nat} {lv : List (Nat × Value)} {st : List Value} {cc : ByteArray} {own : String} {rm : Room} {index : Nat} {g : Int32 → Wd → Option (Int32 × Wd)} {a1 : Int32} (hO : Ok K cc own nL rm)  (hl : Cond.methodLink own index yX6_about ∈ gtb) (hcat : Nat.ble ((st.map fun v => v.category).sum) 8 = true) (hR : RoomOk rm cs 1 23 2) (d : decode cc pc = .ok (.invokevirtual index, 3)) (kk : ∀ (r : Int32) (σ : Wd), Cm K nL cs (g r σ) σ (pc + 3) lv (.int r :: st)) : Cm K nL cs (bd (f_X6_about a1 σ) g) σ pc lv (.int a1 :: .ref (K.G.A 0) :: st) := r_cVi hO (c_X6_about  a1 σ) cal_X6_about hl rfl (by decide) ent_X6 rfl rfl hcat hR d kk
/-! OrderSplit.isVenue -/
def f_X6_isVenue_20   (s0 : Int32) (σ : Wd) : Option (Int32 × Wd) := gd (isb s0) (some (s0, σ))
def f_X6_isVenue_19    (σ : Wd) : Option (Int32 × Wd) := (f_X6_isVenue_20 (0 : Int32) σ)
def f_X6_isVenue (a1 : Int32) (σ : Wd) : Option (Int32 × Wd) := if a1 < 0 then (f_X6_isVenue_19 σ) else (gd (bM (σ.2.2 0 4)) (if (σ.1 (σ.2.2 0 4) 3) ≤ a1 then (f_X6_isVenue_19 σ) else (f_X6_isVenue_20 (1 : Int32) σ)))
set_option maxRecDepth 20000 in
set_option maxHeartbeats 1000000 in
theorem b_X6_isVenue_20 {K : Kt}   (hO : Ok K cX6_isVenue RX6 2 rm_X6_isVenue) (hR : Rt K (some .boolean))   (s0 : Int32) (σ : Wd)  : Cm K 2 (0, 0) (f_X6_isVenue_20  s0 σ) σ 20 [] [.int s0] := by
  exact r_zret hO hR dX6_isVenue_20
set_option maxRecDepth 20000 in
set_option maxHeartbeats 1000000 in
theorem b_X6_isVenue_19 {K : Kt}   (hO : Ok K cX6_isVenue RX6 2 rm_X6_isVenue) (hR : Rt K (some .boolean))    (σ : Wd)  : Cm K 2 (0, 0) (f_X6_isVenue_19   σ) σ 19 [] [] := by
  refine r_iconst hO ci_0 dX6_isVenue_19 ?_
  exact r_jmp (b_X6_isVenue_20 hO hR (0 : Int32) σ) lsub_n
set_option maxRecDepth 20000 in
set_option maxHeartbeats 1000000 in
theorem b_X6_isVenue {K : Kt}  (hO : Ok K cX6_isVenue RX6 2 rm_X6_isVenue) (hR : Rt K (some .boolean))  (a1 : Int32) (σ : Wd) : Cm K 2 (0, 0) (f_X6_isVenue a1 σ) σ 0 [(0, .ref (K.G.A 0)), (1, .int a1)] [] := by
  refine r_iload_n (i := 1) hO rfl rfl dX6_isVenue_0 ?_
  refine r_if_lt (tgt := 19) hO dX6_isVenue_1 (by decide) ?_ ?_
  · exact r_jmp (b_X6_isVenue_19 hO hR σ) lsub_n
  · refine r_iload_n (i := 1) hO rfl rfl dX6_isVenue_4 ?_
    refine r_aload_n (i := 0) hO rfl rfl dX6_isVenue_5 ?_
    refine r_gd fun h1 => ?_
    refine gX6_39 hO dX6_isVenue_6 ?_
    refine gX6_92 hO (bM_is h1) dX6_isVenue_9 ?_
    refine r_icmp_ge (tgt := 19) hO dX6_isVenue_12 (by decide) ?_ ?_
    · exact r_jmp (b_X6_isVenue_19 hO hR σ) lsub_n
    · refine r_iconst hO ci_1 dX6_isVenue_15 ?_
      refine r_goto (tgt := 20) hO dX6_isVenue_16 (by decide) ?_
      exact r_jmp (b_X6_isVenue_20 hO hR (1 : Int32) σ) lsub_n
theorem c_X6_isVenue {l : Launch} {G : Gh}   (a1 : Int32) (σ : Wd) : Con l G yX6_isVenue cX6_isVenue 2 (some .boolean) 0 0 [.ref (G.A 0), .int a1] σ (f_X6_isVenue a1 σ) := Con.of (plainFor_of_name (by decide)) rfl (Nat.le_of_ble_eq_true rfl) (fun K hl hG hO hR => by subst hl; subst hG; exact b_X6_isVenue hO hR  a1 σ)
theorem cal_X6_isVenue : CalV yX6_isVenue cX6_isVenue 2 (some .boolean) 1 := ⟨a_321, a_322, a_323, a_2, by decide, by decide, by decide +kernel⟩
theorem k_X6_isVenue {K : Kt} {nL : Nat} {cs : Nat × Nat} {σ : Wd} {pc : Nat} {lv : List (Nat × Value)} {st : List Value} {cc : ByteArray} {own : String} {rm : Room} {index : Nat} {g : Int32 → Wd → Option (Int32 × Wd)} {a1 : Int32} (hO : Ok K cc own nL rm)  (hl : Cond.methodLink own index yX6_isVenue ∈ gtb) (hcat : Nat.ble ((st.map fun v => v.category).sum) 8 = true) (hR : RoomOk rm cs 0 0 2) (d : decode cc pc = .ok (.invokevirtual index, 3)) (kk : ∀ (r : Int32) (σ : Wd), Cm K nL cs (g r σ) σ (pc + 3) lv (.int r :: st)) : Cm K nL cs (bd (f_X6_isVenue a1 σ) g) σ pc lv (.int a1 :: .ref (K.G.A 0) :: st) := r_cVi hO (c_X6_isVenue  a1 σ) cal_X6_isVenue hl rfl (by decide) ent_X6 rfl rfl hcat hR d kk
/-! OrderSplit.venue -/
def f_X6_venue_24   (x1 : Int32) (x2 : Int32) (s1 : Int32) (σ : Wd) : Option (Int32 × Wd) := bd (f_X6_granted s1 (1 : Int32) (1 : Int32) σ) fun r1 σ2 => if r1 = 0 then (some ((-2147483648 : Int32), σ2)) else (if x2 = (0 : Int32) then (gd (bM (σ2.2.2 0 4)) (gd (inb x1 5) (some (σ2.1 ((σ2.2.2 0 4) + 1) (ix x1), σ2)))) else (if x2 = (1 : Int32) then (gd (bM (σ2.2.2 0 4)) (gd (inb x1 5) (some (σ2.1 ((σ2.2.2 0 4) + 2) (ix x1), σ2)))) else (if x2 = (2 : Int32) then (gd (bM (σ2.2.2 0 4)) (gd (inb x1 5) (some (σ2.1 ((σ2.2.2 0 4) + 3) (ix x1), σ2)))) else (if x2 = (3 : Int32) then (gd (bM (σ2.2.2 0 4)) (gd (inb x1 5) (some (σ2.1 ((σ2.2.2 0 4) + 4) (ix x1), σ2)))) else (if x2 = (4 : Int32) then (gd (bM (σ2.2.2 0 4)) (gd (inb x1 5) (some (σ2.1 ((σ2.2.2 0 4) + 5) (ix x1), σ2)))) else (if x2 = (5 : Int32) then (gd (bM (σ2.2.2 0 4)) (gd (inb x1 5) (some (σ2.1 ((σ2.2.2 0 4) + 6) (ix x1), σ2)))) else (gd (bM (σ2.2.2 0 4)) (bd (f_X3_depthOf (σ2.2.2 0 4) x1 σ2) fun r10 σ11 => some (r10, σ11)))))))))
def f_X6_venue_23   (x1 : Int32) (x2 : Int32) (σ : Wd) : Option (Int32 × Wd) := (f_X6_venue_24 x1 x2 (0 : Int32) σ)
def f_X6_venue (a1 : Int32) (a2 : Int32) (σ : Wd) : Option (Int32 × Wd) := bd (f_X6_isVenue a1 σ) fun r1 σ2 => if r1 = 0 then (f_X6_venue_23 a1 a2 σ2) else (bd (f_X6_within a2 (0 : Int32) (6 : Int32) σ2) fun r3 σ4 => if r3 = 0 then (f_X6_venue_23 a1 a2 σ4) else (f_X6_venue_24 a1 a2 (1 : Int32) σ4))
set_option maxRecDepth 20000 in
set_option maxHeartbeats 1000000 in
theorem b_X6_venue_24 {K : Kt}   (hO : Ok K cX6_venue RX6 3 rm_X6_venue) (hR : Rt K (some .int))   (x1 : Int32) (x2 : Int32) (s1 : Int32) (σ : Wd)  : Cm K 3 (0, 0) (f_X6_venue_24  x1 x2 s1 σ) σ 24 [(0, .ref (K.G.A 0)), (1, .int x1), (2, .int x2)] [.int s1, .ref (K.G.A 0)] := by
  refine r_iconst hO ci_1 dX6_venue_24 ?_
  refine r_iconst hO ci_1 dX6_venue_25 ?_
  refine k_X6_granted hO a_317 rfl ⟨rfl, rfl, Nat.le_refl _, Nat.le_refl _⟩ dX6_venue_26 ?_
  intro r1 σ2
  refine r_if_ne (tgt := 35) hO dX6_venue_29 (by decide) ?_ ?_
  · refine r_ldc hO a_325 dX6_venue_32 ?_
    exact r_iret hO hR dX6_venue_34
  · refine r_iload_n (i := 2) hO rfl rfl dX6_venue_35 ?_
    refine r_if (fun hc => ?_) (fun hc0 => ?_)
    · refine r_tsI (tgt := 76) hO dX6_venue_36 hc (by decide) (by decide) rfl (by decide) ?_
      refine r_aload_n (i := 0) hO rfl rfl dX6_venue_76 ?_
      refine r_gd fun h3 => ?_
      refine gX6_39 hO dX6_venue_77 ?_
      refine gX6_123 hO (bM_is h3) dX6_venue_80 ?_
      refine r_iload_n (i := 1) hO rfl rfl dX6_venue_83 ?_
      refine r_iald hO (sM_1 (bM_is h3)) dX6_venue_84 ?_
      exact r_iret hO hR dX6_venue_85
    · refine r_if (fun hc => ?_) (fun hc1 => ?_)
      · refine r_tsI (tgt := 86) hO dX6_venue_36 hc (by decide) (by decide) rfl (by decide) ?_
        refine r_aload_n (i := 0) hO rfl rfl dX6_venue_86 ?_
        refine r_gd fun h4 => ?_
        refine gX6_39 hO dX6_venue_87 ?_
        refine gX6_127 hO (bM_is h4) dX6_venue_90 ?_
        refine r_iload_n (i := 1) hO rfl rfl dX6_venue_93 ?_
        refine r_iald hO (sM_2 (bM_is h4)) dX6_venue_94 ?_
        exact r_iret hO hR dX6_venue_95
      · refine r_if (fun hc => ?_) (fun hc2 => ?_)
        · refine r_tsI (tgt := 96) hO dX6_venue_36 hc (by decide) (by decide) rfl (by decide) ?_
          refine r_aload_n (i := 0) hO rfl rfl dX6_venue_96 ?_
          refine r_gd fun h5 => ?_
          refine gX6_39 hO dX6_venue_97 ?_
          refine gX6_130 hO (bM_is h5) dX6_venue_100 ?_
          refine r_iload_n (i := 1) hO rfl rfl dX6_venue_103 ?_
          refine r_iald hO (sM_3 (bM_is h5)) dX6_venue_104 ?_
          exact r_iret hO hR dX6_venue_105
        · refine r_if (fun hc => ?_) (fun hc3 => ?_)
          · refine r_tsI (tgt := 106) hO dX6_venue_36 hc (by decide) (by decide) rfl (by decide) ?_
            refine r_aload_n (i := 0) hO rfl rfl dX6_venue_106 ?_
            refine r_gd fun h6 => ?_
            refine gX6_39 hO dX6_venue_107 ?_
            refine gX6_133 hO (bM_is h6) dX6_venue_110 ?_
            refine r_iload_n (i := 1) hO rfl rfl dX6_venue_113 ?_
            refine r_iald hO (sM_4 (bM_is h6)) dX6_venue_114 ?_
            exact r_iret hO hR dX6_venue_115
          · refine r_if (fun hc => ?_) (fun hc4 => ?_)
            · refine r_tsI (tgt := 116) hO dX6_venue_36 hc (by decide) (by decide) rfl (by decide) ?_
              refine r_aload_n (i := 0) hO rfl rfl dX6_venue_116 ?_
              refine r_gd fun h7 => ?_
              refine gX6_39 hO dX6_venue_117 ?_
              refine gX6_136 hO (bM_is h7) dX6_venue_120 ?_
              refine r_iload_n (i := 1) hO rfl rfl dX6_venue_123 ?_
              refine r_iald hO (sM_5 (bM_is h7)) dX6_venue_124 ?_
              exact r_iret hO hR dX6_venue_125
            · refine r_if (fun hc => ?_) (fun hc5 => ?_)
              · refine r_tsI (tgt := 126) hO dX6_venue_36 hc (by decide) (by decide) rfl (by decide) ?_
                refine r_aload_n (i := 0) hO rfl rfl dX6_venue_126 ?_
                refine r_gd fun h8 => ?_
                refine gX6_39 hO dX6_venue_127 ?_
                refine gX6_139 hO (bM_is h8) dX6_venue_130 ?_
                refine r_iload_n (i := 1) hO rfl rfl dX6_venue_133 ?_
                refine r_iald hO (sM_6 (bM_is h8)) dX6_venue_134 ?_
                exact r_iret hO hR dX6_venue_135
              · have h_0 := ne_i (n := 0) hc0 rfl
                have h_1 := ne_i (n := 1) hc1 rfl
                have h_2 := ne_i (n := 2) hc2 rfl
                have h_3 := ne_i (n := 3) hc3 rfl
                have h_4 := ne_i (n := 4) hc4 rfl
                have h_5 := ne_i (n := 5) hc5 rfl
                refine r_tsO (tgt := 136) hO dX6_venue_36 (by omega) (by decide) ?_
                refine r_aload_n (i := 0) hO rfl rfl dX6_venue_136 ?_
                refine r_gd fun h9 => ?_
                refine gX6_39 hO dX6_venue_137 ?_
                refine r_iload_n (i := 1) hO rfl rfl dX6_venue_140 ?_
                refine k_X3_depthOf hO (bM_is h9) a_326 rfl ⟨rfl, rfl, Nat.le_refl _, Nat.le_refl _⟩ dX6_venue_141 ?_
                intro r10 σ11
                exact r_iret hO hR dX6_venue_144
set_option maxRecDepth 20000 in
set_option maxHeartbeats 1000000 in
theorem b_X6_venue_23 {K : Kt}   (hO : Ok K cX6_venue RX6 3 rm_X6_venue) (hR : Rt K (some .int))   (x1 : Int32) (x2 : Int32) (σ : Wd)  : Cm K 3 (0, 0) (f_X6_venue_23  x1 x2 σ) σ 23 [(0, .ref (K.G.A 0)), (1, .int x1), (2, .int x2)] [.ref (K.G.A 0)] := by
  refine r_iconst hO ci_0 dX6_venue_23 ?_
  exact r_jmp (b_X6_venue_24 hO hR x1 x2 (0 : Int32) σ) (lsub_c rfl (lsub_c rfl (lsub_c rfl lsub_n)))
set_option maxRecDepth 20000 in
set_option maxHeartbeats 1000000 in
theorem b_X6_venue {K : Kt}  (hO : Ok K cX6_venue RX6 3 rm_X6_venue) (hR : Rt K (some .int))  (a1 : Int32) (a2 : Int32) (σ : Wd) : Cm K 3 (0, 0) (f_X6_venue a1 a2 σ) σ 0 [(0, .ref (K.G.A 0)), (1, .int a1), (2, .int a2)] [] := by
  refine r_aload_n (i := 0) hO rfl rfl dX6_venue_0 ?_
  refine r_aload_n (i := 0) hO rfl rfl dX6_venue_1 ?_
  refine r_iload_n (i := 1) hO rfl rfl dX6_venue_2 ?_
  refine k_X6_isVenue hO a_324 rfl ⟨rfl, rfl, Nat.le_refl _, Nat.le_refl _⟩ dX6_venue_3 ?_
  intro r1 σ2
  refine r_if_eq (tgt := 23) hO dX6_venue_6 (by decide) ?_ ?_
  · exact r_jmp (b_X6_venue_23 hO hR a1 a2 σ2) (lsub_c rfl (lsub_c rfl (lsub_c rfl lsub_n)))
  · refine r_iload_n (i := 2) hO rfl rfl dX6_venue_9 ?_
    refine r_iconst hO ci_0 dX6_venue_10 ?_
    refine r_bipush hO bi_6 dX6_venue_11 ?_
    refine k_X6_within hO a_316 rfl ⟨rfl, rfl, Nat.le_refl _, Nat.le_refl _⟩ dX6_venue_13 ?_
    intro r3 σ4
    refine r_if_eq (tgt := 23) hO dX6_venue_16 (by decide) ?_ ?_
    · exact r_jmp (b_X6_venue_23 hO hR a1 a2 σ4) (lsub_c rfl (lsub_c rfl (lsub_c rfl lsub_n)))
    · refine r_iconst hO ci_1 dX6_venue_19 ?_
      refine r_goto (tgt := 24) hO dX6_venue_20 (by decide) ?_
      exact r_jmp (b_X6_venue_24 hO hR a1 a2 (1 : Int32) σ4) (lsub_c rfl (lsub_c rfl (lsub_c rfl lsub_n)))
theorem c_X6_venue {l : Launch} {G : Gh}   (a1 : Int32) (a2 : Int32) (σ : Wd) : Con l G yX6_venue cX6_venue 3 (some .int) 2 46 [.ref (G.A 0), .int a1, .int a2] σ (f_X6_venue a1 a2 σ) := Con.of (plainFor_of_name (by decide)) rfl (Nat.le_of_ble_eq_true rfl) (fun K hl hG hO hR => by subst hl; subst hG; exact b_X6_venue hO hR  a1 a2 σ)
theorem cal_X6_venue : CalV yX6_venue cX6_venue 3 (some .int) 2 := ⟨a_327, a_328, a_329, a_2, by decide, by decide, by decide +kernel⟩
theorem k_X6_venue {K : Kt} {nL : Nat} {cs : Nat × Nat} {σ : Wd} {pc : Nat} {lv : List (Nat × Value)} {st : List Value} {cc : ByteArray} {own : String} {rm : Room} {index : Nat} {g : Int32 → Wd → Option (Int32 × Wd)} {a1 : Int32} {a2 : Int32} (hO : Ok K cc own nL rm)  (hl : Cond.methodLink own index yX6_venue ∈ gtb) (hcat : Nat.ble ((st.map fun v => v.category).sum) 8 = true) (hR : RoomOk rm cs 2 46 3) (d : decode cc pc = .ok (.invokevirtual index, 3)) (kk : ∀ (r : Int32) (σ : Wd), Cm K nL cs (g r σ) σ (pc + 3) lv (.int r :: st)) : Cm K nL cs (bd (f_X6_venue a1 a2 σ) g) σ pc lv (.int a2 :: .int a1 :: .ref (K.G.A 0) :: st) := r_cVi hO (c_X6_venue  a1 a2 σ) cal_X6_venue hl rfl (by decide) ent_X6 rfl rfl hcat hR d kk
/-! OrderSplit.isLevel -/
def f_X6_isLevel_30   (s0 : Int32) (σ : Wd) : Option (Int32 × Wd) := gd (isb s0) (some (s0, σ))
def f_X6_isLevel_29    (σ : Wd) : Option (Int32 × Wd) := (f_X6_isLevel_30 (0 : Int32) σ)
def f_X6_isLevel (a1 : Int32) (a2 : Int32) (σ : Wd) : Option (Int32 × Wd) := bd (f_X6_isVenue a1 σ) fun r1 σ2 => if r1 = 0 then (f_X6_isLevel_29 σ2) else (if a2 < 0 then (f_X6_isLevel_29 σ2) else (gd (bM (σ2.2.2 0 4)) (gd (inb a1 5) (if (σ2.1 ((σ2.2.2 0 4) + 6) (ix a1)) ≤ a2 then (f_X6_isLevel_29 σ2) else (f_X6_isLevel_30 (1 : Int32) σ2)))))
set_option maxRecDepth 20000 in
set_option maxHeartbeats 1000000 in
theorem b_X6_isLevel_30 {K : Kt}   (hO : Ok K cX6_isLevel RX6 3 rm_X6_isLevel) (hR : Rt K (some .boolean))   (s0 : Int32) (σ : Wd)  : Cm K 3 (0, 0) (f_X6_isLevel_30  s0 σ) σ 30 [] [.int s0] := by
  exact r_zret hO hR dX6_isLevel_30
set_option maxRecDepth 20000 in
set_option maxHeartbeats 1000000 in
theorem b_X6_isLevel_29 {K : Kt}   (hO : Ok K cX6_isLevel RX6 3 rm_X6_isLevel) (hR : Rt K (some .boolean))    (σ : Wd)  : Cm K 3 (0, 0) (f_X6_isLevel_29   σ) σ 29 [] [] := by
  refine r_iconst hO ci_0 dX6_isLevel_29 ?_
  exact r_jmp (b_X6_isLevel_30 hO hR (0 : Int32) σ) lsub_n
set_option maxRecDepth 20000 in
set_option maxHeartbeats 1000000 in
theorem b_X6_isLevel {K : Kt}  (hO : Ok K cX6_isLevel RX6 3 rm_X6_isLevel) (hR : Rt K (some .boolean))  (a1 : Int32) (a2 : Int32) (σ : Wd) : Cm K 3 (0, 0) (f_X6_isLevel a1 a2 σ) σ 0 [(0, .ref (K.G.A 0)), (1, .int a1), (2, .int a2)] [] := by
  refine r_aload_n (i := 0) hO rfl rfl dX6_isLevel_0 ?_
  refine r_iload_n (i := 1) hO rfl rfl dX6_isLevel_1 ?_
  refine k_X6_isVenue hO a_324 rfl ⟨rfl, rfl, Nat.le_refl _, Nat.le_refl _⟩ dX6_isLevel_2 ?_
  intro r1 σ2
  refine r_if_eq (tgt := 29) hO dX6_isLevel_5 (by decide) ?_ ?_
  · exact r_jmp (b_X6_isLevel_29 hO hR σ2) lsub_n
  · refine r_iload_n (i := 2) hO rfl rfl dX6_isLevel_8 ?_
    refine r_if_lt (tgt := 29) hO dX6_isLevel_9 (by decide) ?_ ?_
    · exact r_jmp (b_X6_isLevel_29 hO hR σ2) lsub_n
    · refine r_iload_n (i := 2) hO rfl rfl dX6_isLevel_12 ?_
      refine r_aload_n (i := 0) hO rfl rfl dX6_isLevel_13 ?_
      refine r_gd fun h3 => ?_
      refine gX6_39 hO dX6_isLevel_14 ?_
      refine gX6_139 hO (bM_is h3) dX6_isLevel_17 ?_
      refine r_iload_n (i := 1) hO rfl rfl dX6_isLevel_20 ?_
      refine r_iald hO (sM_6 (bM_is h3)) dX6_isLevel_21 ?_
      refine r_icmp_ge (tgt := 29) hO dX6_isLevel_22 (by decide) ?_ ?_
      · exact r_jmp (b_X6_isLevel_29 hO hR σ2) lsub_n
      · refine r_iconst hO ci_1 dX6_isLevel_25 ?_
        refine r_goto (tgt := 30) hO dX6_isLevel_26 (by decide) ?_
        exact r_jmp (b_X6_isLevel_30 hO hR (1 : Int32) σ2) lsub_n
theorem c_X6_isLevel {l : Launch} {G : Gh}   (a1 : Int32) (a2 : Int32) (σ : Wd) : Con l G yX6_isLevel cX6_isLevel 3 (some .boolean) 1 21 [.ref (G.A 0), .int a1, .int a2] σ (f_X6_isLevel a1 a2 σ) := Con.of (plainFor_of_name (by decide)) rfl (Nat.le_of_ble_eq_true rfl) (fun K hl hG hO hR => by subst hl; subst hG; exact b_X6_isLevel hO hR  a1 a2 σ)
theorem cal_X6_isLevel : CalV yX6_isLevel cX6_isLevel 3 (some .boolean) 2 := ⟨a_330, a_331, a_332, a_2, by decide, by decide, by decide +kernel⟩
theorem k_X6_isLevel {K : Kt} {nL : Nat} {cs : Nat × Nat} {σ : Wd} {pc : Nat} {lv : List (Nat × Value)} {st : List Value} {cc : ByteArray} {own : String} {rm : Room} {index : Nat} {g : Int32 → Wd → Option (Int32 × Wd)} {a1 : Int32} {a2 : Int32} (hO : Ok K cc own nL rm)  (hl : Cond.methodLink own index yX6_isLevel ∈ gtb) (hcat : Nat.ble ((st.map fun v => v.category).sum) 8 = true) (hR : RoomOk rm cs 1 21 3) (d : decode cc pc = .ok (.invokevirtual index, 3)) (kk : ∀ (r : Int32) (σ : Wd), Cm K nL cs (g r σ) σ (pc + 3) lv (.int r :: st)) : Cm K nL cs (bd (f_X6_isLevel a1 a2 σ) g) σ pc lv (.int a2 :: .int a1 :: .ref (K.G.A 0) :: st) := r_cVi hO (c_X6_isLevel  a1 a2 σ) cal_X6_isLevel hl rfl (by decide) ent_X6 rfl rfl hcat hR d kk
/-! OrderSplit.level -/
def f_X6_level_68   (s0 : Int32) (σ : Wd) : Option (Int32 × Wd) := some (s0, σ)
def f_X6_level_24   (x1 : Int32) (x2 : Int32) (x3 : Int32) (s1 : Int32) (σ : Wd) : Option (Int32 × Wd) := bd (f_X6_granted s1 (1 : Int32) (1 : Int32) σ) fun r1 σ2 => if r1 = 0 then (some ((-1 : Int32), σ2)) else (bd (f_X6_slot x1 x2 σ2) fun r3 σ4 => if x3 = 0 then (gd (bM (σ4.2.2 0 4)) (gd (inb r3 30) ((f_X6_level_68 (σ4.1 ((σ4.2.2 0 4) + 8) (ix r3)) σ4)))) else (gd (bM (σ4.2.2 0 4)) (gd (inb r3 30) ((f_X6_level_68 (σ4.1 ((σ4.2.2 0 4) + 9) (ix r3)) σ4)))))
def f_X6_level_23   (x1 : Int32) (x2 : Int32) (x3 : Int32) (σ : Wd) : Option (Int32 × Wd) := (f_X6_level_24 x1 x2 x3 (0 : Int32) σ)
def f_X6_level (a1 : Int32) (a2 : Int32) (a3 : Int32) (σ : Wd) : Option (Int32 × Wd) := bd (f_X6_isLevel a1 a2 σ) fun r1 σ2 => if r1 = 0 then (f_X6_level_23 a1 a2 a3 σ2) else (bd (f_X6_within a3 (0 : Int32) (1 : Int32) σ2) fun r3 σ4 => if r3 = 0 then (f_X6_level_23 a1 a2 a3 σ4) else (f_X6_level_24 a1 a2 a3 (1 : Int32) σ4))
set_option maxRecDepth 20000 in
set_option maxHeartbeats 1000000 in
theorem b_X6_level_68 {K : Kt}   (hO : Ok K cX6_level RX6 5 rm_X6_level) (hR : Rt K (some .int))   (s0 : Int32) (σ : Wd)  : Cm K 5 (0, 0) (f_X6_level_68  s0 σ) σ 68 [] [.int s0] := by
  exact r_iret hO hR dX6_level_68
set_option maxRecDepth 20000 in
set_option maxHeartbeats 1000000 in
theorem b_X6_level_24 {K : Kt}   (hO : Ok K cX6_level RX6 5 rm_X6_level) (hR : Rt K (some .int))   (x1 : Int32) (x2 : Int32) (x3 : Int32) (s1 : Int32) (σ : Wd)  : Cm K 5 (0, 0) (f_X6_level_24  x1 x2 x3 s1 σ) σ 24 [(0, .ref (K.G.A 0)), (1, .int x1), (2, .int x2), (3, .int x3)] [.int s1, .ref (K.G.A 0)] := by
  refine r_iconst hO ci_1 dX6_level_24 ?_
  refine r_iconst hO ci_1 dX6_level_25 ?_
  refine k_X6_granted hO a_317 rfl ⟨rfl, rfl, Nat.le_refl _, Nat.le_refl _⟩ dX6_level_26 ?_
  intro r1 σ2
  refine r_if_ne (tgt := 34) hO dX6_level_29 (by decide) ?_ ?_
  · refine r_iconst hO ci_m1 dX6_level_32 ?_
    exact r_iret hO hR dX6_level_33
  · refine r_iload_n (i := 1) hO rfl rfl dX6_level_34 ?_
    refine r_iload_n (i := 2) hO rfl rfl dX6_level_35 ?_
    refine k_X6_slot hO a_334 rfl ⟨rfl, rfl, Nat.le_refl _, Nat.le_refl _⟩ dX6_level_36 ?_
    intro r3 σ4
    refine r_istore hO rfl rfl dX6_level_39 ?_
    refine r_iload_n (i := 3) hO rfl rfl dX6_level_41 ?_
    refine r_if_ne (tgt := 58) hO dX6_level_42 (by decide) ?_ ?_
    · refine r_aload_n (i := 0) hO rfl rfl dX6_level_45 ?_
      refine r_gd fun h5 => ?_
      refine gX6_39 hO dX6_level_46 ?_
      refine gX6_154 hO (bM_is h5) dX6_level_49 ?_
      refine r_iload hO (d := dX6_level_52) rfl ?_
      refine r_iald hO (sM_8 (bM_is h5)) dX6_level_54 ?_
      refine r_goto (tgt := 68) hO dX6_level_55 (by decide) ?_
      exact r_jmp (b_X6_level_68 hO hR (σ4.1 ((σ4.2.2 0 4) + 8) (ix r3)) σ4) lsub_n
    · refine r_aload_n (i := 0) hO rfl rfl dX6_level_58 ?_
      refine r_gd fun h6 => ?_
      refine gX6_39 hO dX6_level_59 ?_
      refine gX6_157 hO (bM_is h6) dX6_level_62 ?_
      refine r_iload hO (d := dX6_level_65) rfl ?_
      refine r_iald hO (sM_9 (bM_is h6)) dX6_level_67 ?_
      exact r_jmp (b_X6_level_68 hO hR (σ4.1 ((σ4.2.2 0 4) + 9) (ix r3)) σ4) lsub_n
set_option maxRecDepth 20000 in
set_option maxHeartbeats 1000000 in
theorem b_X6_level_23 {K : Kt}   (hO : Ok K cX6_level RX6 5 rm_X6_level) (hR : Rt K (some .int))   (x1 : Int32) (x2 : Int32) (x3 : Int32) (σ : Wd)  : Cm K 5 (0, 0) (f_X6_level_23  x1 x2 x3 σ) σ 23 [(0, .ref (K.G.A 0)), (1, .int x1), (2, .int x2), (3, .int x3)] [.ref (K.G.A 0)] := by
  refine r_iconst hO ci_0 dX6_level_23 ?_
  exact r_jmp (b_X6_level_24 hO hR x1 x2 x3 (0 : Int32) σ) (lsub_c rfl (lsub_c rfl (lsub_c rfl (lsub_c rfl lsub_n))))
set_option maxRecDepth 20000 in
set_option maxHeartbeats 1000000 in
theorem b_X6_level {K : Kt}  (hO : Ok K cX6_level RX6 5 rm_X6_level) (hR : Rt K (some .int))  (a1 : Int32) (a2 : Int32) (a3 : Int32) (σ : Wd) : Cm K 5 (0, 0) (f_X6_level a1 a2 a3 σ) σ 0 [(0, .ref (K.G.A 0)), (1, .int a1), (2, .int a2), (3, .int a3)] [] := by
  refine r_aload_n (i := 0) hO rfl rfl dX6_level_0 ?_
  refine r_aload_n (i := 0) hO rfl rfl dX6_level_1 ?_
  refine r_iload_n (i := 1) hO rfl rfl dX6_level_2 ?_
  refine r_iload_n (i := 2) hO rfl rfl dX6_level_3 ?_
  refine k_X6_isLevel hO a_333 rfl ⟨rfl, rfl, Nat.le_refl _, Nat.le_refl _⟩ dX6_level_4 ?_
  intro r1 σ2
  refine r_if_eq (tgt := 23) hO dX6_level_7 (by decide) ?_ ?_
  · exact r_jmp (b_X6_level_23 hO hR a1 a2 a3 σ2) (lsub_c rfl (lsub_c rfl (lsub_c rfl (lsub_c rfl lsub_n))))
  · refine r_iload_n (i := 3) hO rfl rfl dX6_level_10 ?_
    refine r_iconst hO ci_0 dX6_level_11 ?_
    refine r_iconst hO ci_1 dX6_level_12 ?_
    refine k_X6_within hO a_316 rfl ⟨rfl, rfl, Nat.le_refl _, Nat.le_refl _⟩ dX6_level_13 ?_
    intro r3 σ4
    refine r_if_eq (tgt := 23) hO dX6_level_16 (by decide) ?_ ?_
    · exact r_jmp (b_X6_level_23 hO hR a1 a2 a3 σ4) (lsub_c rfl (lsub_c rfl (lsub_c rfl (lsub_c rfl lsub_n))))
    · refine r_iconst hO ci_1 dX6_level_19 ?_
      refine r_goto (tgt := 24) hO dX6_level_20 (by decide) ?_
      exact r_jmp (b_X6_level_24 hO hR a1 a2 a3 (1 : Int32) σ4) (lsub_c rfl (lsub_c rfl (lsub_c rfl (lsub_c rfl lsub_n))))
theorem c_X6_level {l : Launch} {G : Gh}   (a1 : Int32) (a2 : Int32) (a3 : Int32) (σ : Wd) : Con l G yX6_level cX6_level 5 (some .int) 2 43 [.ref (G.A 0), .int a1, .int a2, .int a3] σ (f_X6_level a1 a2 a3 σ) := Con.of (plainFor_of_name (by decide)) rfl (Nat.le_of_ble_eq_true rfl) (fun K hl hG hO hR => by subst hl; subst hG; exact b_X6_level hO hR  a1 a2 a3 σ)
theorem cal_X6_level : CalV yX6_level cX6_level 5 (some .int) 3 := ⟨a_335, a_336, a_337, a_2, by decide, by decide, by decide +kernel⟩
theorem k_X6_level {K : Kt} {nL : Nat} {cs : Nat × Nat} {σ : Wd} {pc : Nat} {lv : List (Nat × Value)} {st : List Value} {cc : ByteArray} {own : String} {rm : Room} {index : Nat} {g : Int32 → Wd → Option (Int32 × Wd)} {a1 : Int32} {a2 : Int32} {a3 : Int32} (hO : Ok K cc own nL rm)  (hl : Cond.methodLink own index yX6_level ∈ gtb) (hcat : Nat.ble ((st.map fun v => v.category).sum) 8 = true) (hR : RoomOk rm cs 2 43 5) (d : decode cc pc = .ok (.invokevirtual index, 3)) (kk : ∀ (r : Int32) (σ : Wd), Cm K nL cs (g r σ) σ (pc + 3) lv (.int r :: st)) : Cm K nL cs (bd (f_X6_level a1 a2 a3 σ) g) σ pc lv (.int a3 :: .int a2 :: .int a1 :: .ref (K.G.A 0) :: st) := r_cVi hO (c_X6_level  a1 a2 a3 σ) cal_X6_level hl rfl (by decide) ent_X6 rfl rfl hcat hR d kk
/-! OrderSplit.charge -/
def f_X6_charge (a1 : Int32) (a2 : Int32) (σ : Wd) : Option (Int32 × Wd) := bd (f_X6_isVenue a1 σ) fun r1 σ2 => bd (f_X6_within a2 (0 : Int32) (120 : Int32) σ2) fun r3 σ4 => bd (f_X6_granted r1 r3 (1 : Int32) σ4) fun r5 σ6 => if r5 = 0 then (some ((-2147483648 : Int32), σ6)) else (gd (bM (σ6.2.2 0 4)) (bd (f_X3_chargeOf (σ6.2.2 0 4) a1 a2 σ6) fun r8 σ9 => some (r8, σ9)))
set_option maxRecDepth 20000 in
set_option maxHeartbeats 1000000 in
theorem b_X6_charge {K : Kt}  (hO : Ok K cX6_charge RX6 3 rm_X6_charge) (hR : Rt K (some .int))  (a1 : Int32) (a2 : Int32) (σ : Wd) : Cm K 3 (0, 0) (f_X6_charge a1 a2 σ) σ 0 [(0, .ref (K.G.A 0)), (1, .int a1), (2, .int a2)] [] := by
  refine r_aload_n (i := 0) hO rfl rfl dX6_charge_0 ?_
  refine r_aload_n (i := 0) hO rfl rfl dX6_charge_1 ?_
  refine r_iload_n (i := 1) hO rfl rfl dX6_charge_2 ?_
  refine k_X6_isVenue hO a_324 rfl ⟨rfl, rfl, Nat.le_refl _, Nat.le_refl _⟩ dX6_charge_3 ?_
  intro r1 σ2
  refine r_iload_n (i := 2) hO rfl rfl dX6_charge_6 ?_
  refine r_iconst hO ci_0 dX6_charge_7 ?_
  refine r_bipush hO bi_120 dX6_charge_8 ?_
  refine k_X6_within hO a_316 rfl ⟨rfl, rfl, Nat.le_refl _, Nat.le_refl _⟩ dX6_charge_10 ?_
  intro r3 σ4
  refine r_iconst hO ci_1 dX6_charge_13 ?_
  refine k_X6_granted hO a_317 rfl ⟨rfl, rfl, Nat.le_refl _, Nat.le_refl _⟩ dX6_charge_14 ?_
  intro r5 σ6
  refine r_if_ne (tgt := 23) hO dX6_charge_17 (by decide) ?_ ?_
  · refine r_ldc hO a_325 dX6_charge_20 ?_
    exact r_iret hO hR dX6_charge_22
  · refine r_aload_n (i := 0) hO rfl rfl dX6_charge_23 ?_
    refine r_gd fun h7 => ?_
    refine gX6_39 hO dX6_charge_24 ?_
    refine r_iload_n (i := 1) hO rfl rfl dX6_charge_27 ?_
    refine r_iload_n (i := 2) hO rfl rfl dX6_charge_28 ?_
    refine k_X3_chargeOf hO (bM_is h7) a_338 rfl ⟨rfl, rfl, Nat.le_refl _, Nat.le_refl _⟩ dX6_charge_29 ?_
    intro r8 σ9
    exact r_iret hO hR dX6_charge_32
theorem c_X6_charge {l : Launch} {G : Gh}   (a1 : Int32) (a2 : Int32) (σ : Wd) : Con l G yX6_charge cX6_charge 3 (some .int) 1 23 [.ref (G.A 0), .int a1, .int a2] σ (f_X6_charge a1 a2 σ) := Con.of (plainFor_of_name (by decide)) rfl (Nat.le_of_ble_eq_true rfl) (fun K hl hG hO hR => by subst hl; subst hG; exact b_X6_charge hO hR  a1 a2 σ)
theorem cal_X6_charge : CalV yX6_charge cX6_charge 3 (some .int) 2 := ⟨a_339, a_340, a_341, a_2, by decide, by decide, by decide +kernel⟩
theorem k_X6_charge {K : Kt} {nL : Nat} {cs : Nat × Nat} {σ : Wd} {pc : Nat} {lv : List (Nat × Value)} {st : List Value} {cc : ByteArray} {own : String} {rm : Room} {index : Nat} {g : Int32 → Wd → Option (Int32 × Wd)} {a1 : Int32} {a2 : Int32} (hO : Ok K cc own nL rm)  (hl : Cond.methodLink own index yX6_charge ∈ gtb) (hcat : Nat.ble ((st.map fun v => v.category).sum) 8 = true) (hR : RoomOk rm cs 1 23 3) (d : decode cc pc = .ok (.invokevirtual index, 3)) (kk : ∀ (r : Int32) (σ : Wd), Cm K nL cs (g r σ) σ (pc + 3) lv (.int r :: st)) : Cm K nL cs (bd (f_X6_charge a1 a2 σ) g) σ pc lv (.int a2 :: .int a1 :: .ref (K.G.A 0) :: st) := r_cVi hO (c_X6_charge  a1 a2 σ) cal_X6_charge hl rfl (by decide) ent_X6 rfl rfl hcat hR d kk
/-! OrderSplit.cost -/
def f_X6_cost_31   (x1 : Int32) (x2 : Int32) (s1 : Int32) (s2 : Int32) (σ : Wd) : Option (Int32 × Wd) := bd (f_X6_granted s1 s2 (1 : Int32) σ) fun r1 σ2 => if r1 = 0 then (some ((-2147483648 : Int32), σ2)) else (gd (bM (σ2.2.2 0 4)) (bd (f_X3_costOf (σ2.2.2 0 4) x1 x2 σ2) fun r4 σ5 => some (r4, σ5)))
def f_X6_cost_30   (x1 : Int32) (x2 : Int32) (s1 : Int32) (σ : Wd) : Option (Int32 × Wd) := (f_X6_cost_31 x1 x2 s1 (0 : Int32) σ)
def f_X6_cost (a1 : Int32) (a2 : Int32) (σ : Wd) : Option (Int32 × Wd) := bd (f_X6_isVenue a1 σ) fun r1 σ2 => bd (f_X6_isVenue a1 σ2) fun r3 σ4 => if r3 = 0 then (f_X6_cost_30 a1 a2 r1 σ4) else (gd (bM (σ4.2.2 0 4)) (bd (f_X3_canBeHad (σ4.2.2 0 4) a1 a2 σ4) fun r6 σ7 => if r6 = 0 then (f_X6_cost_30 a1 a2 r1 σ7) else (f_X6_cost_31 a1 a2 r1 (1 : Int32) σ7)))
set_option maxRecDepth 20000 in
set_option maxHeartbeats 1000000 in
theorem b_X6_cost_31 {K : Kt}   (hO : Ok K cX6_cost RX6 3 rm_X6_cost) (hR : Rt K (some .int))   (x1 : Int32) (x2 : Int32) (s1 : Int32) (s2 : Int32) (σ : Wd)  : Cm K 3 (0, 0) (f_X6_cost_31  x1 x2 s1 s2 σ) σ 31 [(0, .ref (K.G.A 0)), (1, .int x1), (2, .int x2)] [.int s2, .int s1, .ref (K.G.A 0)] := by
  refine r_iconst hO ci_1 dX6_cost_31 ?_
  refine k_X6_granted hO a_317 rfl ⟨rfl, rfl, Nat.le_refl _, Nat.le_refl _⟩ dX6_cost_32 ?_
  intro r1 σ2
  refine r_if_ne (tgt := 41) hO dX6_cost_35 (by decide) ?_ ?_
  · refine r_ldc hO a_325 dX6_cost_38 ?_
    exact r_iret hO hR dX6_cost_40
  · refine r_aload_n (i := 0) hO rfl rfl dX6_cost_41 ?_
    refine r_gd fun h3 => ?_
    refine gX6_39 hO dX6_cost_42 ?_
    refine r_iload_n (i := 1) hO rfl rfl dX6_cost_45 ?_
    refine r_iload_n (i := 2) hO rfl rfl dX6_cost_46 ?_
    refine k_X3_costOf hO (bM_is h3) a_343 rfl ⟨rfl, rfl, Nat.le_refl _, Nat.le_refl _⟩ dX6_cost_47 ?_
    intro r4 σ5
    exact r_iret hO hR dX6_cost_50
set_option maxRecDepth 20000 in
set_option maxHeartbeats 1000000 in
theorem b_X6_cost_30 {K : Kt}   (hO : Ok K cX6_cost RX6 3 rm_X6_cost) (hR : Rt K (some .int))   (x1 : Int32) (x2 : Int32) (s1 : Int32) (σ : Wd)  : Cm K 3 (0, 0) (f_X6_cost_30  x1 x2 s1 σ) σ 30 [(0, .ref (K.G.A 0)), (1, .int x1), (2, .int x2)] [.int s1, .ref (K.G.A 0)] := by
  refine r_iconst hO ci_0 dX6_cost_30 ?_
  exact r_jmp (b_X6_cost_31 hO hR x1 x2 s1 (0 : Int32) σ) (lsub_c rfl (lsub_c rfl (lsub_c rfl lsub_n)))
set_option maxRecDepth 20000 in
set_option maxHeartbeats 1000000 in
theorem b_X6_cost {K : Kt}  (hO : Ok K cX6_cost RX6 3 rm_X6_cost) (hR : Rt K (some .int))  (a1 : Int32) (a2 : Int32) (σ : Wd) : Cm K 3 (0, 0) (f_X6_cost a1 a2 σ) σ 0 [(0, .ref (K.G.A 0)), (1, .int a1), (2, .int a2)] [] := by
  refine r_aload_n (i := 0) hO rfl rfl dX6_cost_0 ?_
  refine r_aload_n (i := 0) hO rfl rfl dX6_cost_1 ?_
  refine r_iload_n (i := 1) hO rfl rfl dX6_cost_2 ?_
  refine k_X6_isVenue hO a_324 rfl ⟨rfl, rfl, Nat.le_refl _, Nat.le_refl _⟩ dX6_cost_3 ?_
  intro r1 σ2
  refine r_aload_n (i := 0) hO rfl rfl dX6_cost_6 ?_
  refine r_iload_n (i := 1) hO rfl rfl dX6_cost_7 ?_
  refine k_X6_isVenue hO a_324 rfl ⟨rfl, rfl, Nat.le_refl _, Nat.le_refl _⟩ dX6_cost_8 ?_
  intro r3 σ4
  refine r_if_eq (tgt := 30) hO dX6_cost_11 (by decide) ?_ ?_
  · exact r_jmp (b_X6_cost_30 hO hR a1 a2 r1 σ4) (lsub_c rfl (lsub_c rfl (lsub_c rfl lsub_n)))
  · refine r_aload_n (i := 0) hO rfl rfl dX6_cost_14 ?_
    refine r_gd fun h5 => ?_
    refine gX6_39 hO dX6_cost_15 ?_
    refine r_iload_n (i := 1) hO rfl rfl dX6_cost_18 ?_
    refine r_iload_n (i := 2) hO rfl rfl dX6_cost_19 ?_
    refine k_X3_canBeHad hO (bM_is h5) a_342 rfl ⟨rfl, rfl, Nat.le_refl _, Nat.le_refl _⟩ dX6_cost_20 ?_
    intro r6 σ7
    refine r_if_eq (tgt := 30) hO dX6_cost_23 (by decide) ?_ ?_
    · exact r_jmp (b_X6_cost_30 hO hR a1 a2 r1 σ7) (lsub_c rfl (lsub_c rfl (lsub_c rfl lsub_n)))
    · refine r_iconst hO ci_1 dX6_cost_26 ?_
      refine r_goto (tgt := 31) hO dX6_cost_27 (by decide) ?_
      exact r_jmp (b_X6_cost_31 hO hR a1 a2 r1 (1 : Int32) σ7) (lsub_c rfl (lsub_c rfl (lsub_c rfl lsub_n)))
theorem c_X6_cost {l : Launch} {G : Gh}   (a1 : Int32) (a2 : Int32) (σ : Wd) : Con l G yX6_cost cX6_cost 3 (some .int) 3 68 [.ref (G.A 0), .int a1, .int a2] σ (f_X6_cost a1 a2 σ) := Con.of (plainFor_of_name (by decide)) rfl (Nat.le_of_ble_eq_true rfl) (fun K hl hG hO hR => by subst hl; subst hG; exact b_X6_cost hO hR  a1 a2 σ)
theorem cal_X6_cost : CalV yX6_cost cX6_cost 3 (some .int) 2 := ⟨a_344, a_345, a_346, a_2, by decide, by decide, by decide +kernel⟩
theorem k_X6_cost {K : Kt} {nL : Nat} {cs : Nat × Nat} {σ : Wd} {pc : Nat} {lv : List (Nat × Value)} {st : List Value} {cc : ByteArray} {own : String} {rm : Room} {index : Nat} {g : Int32 → Wd → Option (Int32 × Wd)} {a1 : Int32} {a2 : Int32} (hO : Ok K cc own nL rm)  (hl : Cond.methodLink own index yX6_cost ∈ gtb) (hcat : Nat.ble ((st.map fun v => v.category).sum) 8 = true) (hR : RoomOk rm cs 3 68 3) (d : decode cc pc = .ok (.invokevirtual index, 3)) (kk : ∀ (r : Int32) (σ : Wd), Cm K nL cs (g r σ) σ (pc + 3) lv (.int r :: st)) : Cm K nL cs (bd (f_X6_cost a1 a2 σ) g) σ pc lv (.int a2 :: .int a1 :: .ref (K.G.A 0) :: st) := r_cVi hO (c_X6_cost  a1 a2 σ) cal_X6_cost hl rfl (by decide) ent_X6 rfl rfl hcat hR d kk
/-! OrderSplit.under -/
def f_X6_under (a1 : Int32) (a2 : Int32) (σ : Wd) : Option (Int32 × Wd) := bd (f_X6_isVenue a1 σ) fun r1 σ2 => bd (f_X6_within a2 (1 : Int32) (999 : Int32) σ2) fun r3 σ4 => bd (f_X6_granted r1 r3 (1 : Int32) σ4) fun r5 σ6 => if r5 = 0 then (some ((-1 : Int32), σ6)) else (gd (bM (σ6.2.2 0 4)) (bd (f_X3_unitsUpTo (σ6.2.2 0 4) a1 a2 σ6) fun r8 σ9 => some (r8, σ9)))
set_option maxRecDepth 20000 in
set_option maxHeartbeats 1000000 in
theorem b_X6_under {K : Kt}  (hO : Ok K cX6_under RX6 3 rm_X6_under) (hR : Rt K (some .int))  (a1 : Int32) (a2 : Int32) (σ : Wd) : Cm K 3 (0, 0) (f_X6_under a1 a2 σ) σ 0 [(0, .ref (K.G.A 0)), (1, .int a1), (2, .int a2)] [] := by
  refine r_aload_n (i := 0) hO rfl rfl dX6_under_0 ?_
  refine r_aload_n (i := 0) hO rfl rfl dX6_under_1 ?_
  refine r_iload_n (i := 1) hO rfl rfl dX6_under_2 ?_
  refine k_X6_isVenue hO a_324 rfl ⟨rfl, rfl, Nat.le_refl _, Nat.le_refl _⟩ dX6_under_3 ?_
  intro r1 σ2
  refine r_iload_n (i := 2) hO rfl rfl dX6_under_6 ?_
  refine r_iconst hO ci_1 dX6_under_7 ?_
  refine r_sipush hO si_999 dX6_under_8 ?_
  refine k_X6_within hO a_316 rfl ⟨rfl, rfl, Nat.le_refl _, Nat.le_refl _⟩ dX6_under_11 ?_
  intro r3 σ4
  refine r_iconst hO ci_1 dX6_under_14 ?_
  refine k_X6_granted hO a_317 rfl ⟨rfl, rfl, Nat.le_refl _, Nat.le_refl _⟩ dX6_under_15 ?_
  intro r5 σ6
  refine r_if_ne (tgt := 23) hO dX6_under_18 (by decide) ?_ ?_
  · refine r_iconst hO ci_m1 dX6_under_21 ?_
    exact r_iret hO hR dX6_under_22
  · refine r_aload_n (i := 0) hO rfl rfl dX6_under_23 ?_
    refine r_gd fun h7 => ?_
    refine gX6_39 hO dX6_under_24 ?_
    refine r_iload_n (i := 1) hO rfl rfl dX6_under_27 ?_
    refine r_iload_n (i := 2) hO rfl rfl dX6_under_28 ?_
    refine k_X3_unitsUpTo hO (bM_is h7) a_347 rfl ⟨rfl, rfl, Nat.le_refl _, Nat.le_refl _⟩ dX6_under_29 ?_
    intro r8 σ9
    exact r_iret hO hR dX6_under_32
theorem c_X6_under {l : Launch} {G : Gh}   (a1 : Int32) (a2 : Int32) (σ : Wd) : Con l G yX6_under cX6_under 3 (some .int) 1 25 [.ref (G.A 0), .int a1, .int a2] σ (f_X6_under a1 a2 σ) := Con.of (plainFor_of_name (by decide)) rfl (Nat.le_of_ble_eq_true rfl) (fun K hl hG hO hR => by subst hl; subst hG; exact b_X6_under hO hR  a1 a2 σ)
theorem cal_X6_under : CalV yX6_under cX6_under 3 (some .int) 2 := ⟨a_348, a_349, a_350, a_2, by decide, by decide, by decide +kernel⟩
theorem k_X6_under {K : Kt} {nL : Nat} {cs : Nat × Nat} {σ : Wd} {pc : Nat} {lv : List (Nat × Value)} {st : List Value} {cc : ByteArray} {own : String} {rm : Room} {index : Nat} {g : Int32 → Wd → Option (Int32 × Wd)} {a1 : Int32} {a2 : Int32} (hO : Ok K cc own nL rm)  (hl : Cond.methodLink own index yX6_under ∈ gtb) (hcat : Nat.ble ((st.map fun v => v.category).sum) 8 = true) (hR : RoomOk rm cs 1 25 3) (d : decode cc pc = .ok (.invokevirtual index, 3)) (kk : ∀ (r : Int32) (σ : Wd), Cm K nL cs (g r σ) σ (pc + 3) lv (.int r :: st)) : Cm K nL cs (bd (f_X6_under a1 a2 σ) g) σ pc lv (.int a2 :: .int a1 :: .ref (K.G.A 0) :: st) := r_cVi hO (c_X6_under  a1 a2 σ) cal_X6_under hl rfl (by decide) ent_X6 rfl rfl hcat hR d kk
/-! OrderSplit.grantedAmount -/
def f_X6_grantedAmount (a1 : Int32) (a2 : Int32) (σ : Wd) : Option (Int32 × Wd) := bd (f_X6_within a2 (1 : Int32) (120 : Int32) σ) fun r1 σ2 => bd (f_X6_granted a1 r1 (1 : Int32) σ2) fun r3 σ4 => gd (isb r3) (some (r3, σ4))
set_option maxRecDepth 20000 in
set_option maxHeartbeats 1000000 in
theorem b_X6_grantedAmount {K : Kt}  (hO : Ok K cX6_grantedAmount RX6 3 rm_X6_grantedAmount) (hR : Rt K (some .boolean))  (a1 : Int32) (a2 : Int32) (σ : Wd) : Cm K 3 (0, 0) (f_X6_grantedAmount a1 a2 σ) σ 0 [(0, .ref (K.G.A 0)), (1, .int a1), (2, .int a2)] [] := by
  refine r_aload_n (i := 0) hO rfl rfl dX6_grantedAmount_0 ?_
  refine r_iload_n (i := 1) hO rfl rfl dX6_grantedAmount_1 ?_
  refine r_iload_n (i := 2) hO rfl rfl dX6_grantedAmount_2 ?_
  refine r_iconst hO ci_1 dX6_grantedAmount_3 ?_
  refine r_bipush hO bi_120 dX6_grantedAmount_4 ?_
  refine k_X6_within hO a_316 rfl ⟨rfl, rfl, Nat.le_refl _, Nat.le_refl _⟩ dX6_grantedAmount_6 ?_
  intro r1 σ2
  refine r_iconst hO ci_1 dX6_grantedAmount_9 ?_
  refine k_X6_granted hO a_317 rfl ⟨rfl, rfl, Nat.le_refl _, Nat.le_refl _⟩ dX6_grantedAmount_10 ?_
  intro r3 σ4
  exact r_zret hO hR dX6_grantedAmount_13
theorem c_X6_grantedAmount {l : Launch} {G : Gh}   (a1 : Int32) (a2 : Int32) (σ : Wd) : Con l G yX6_grantedAmount cX6_grantedAmount 3 (some .boolean) 1 23 [.ref (G.A 0), .int a1, .int a2] σ (f_X6_grantedAmount a1 a2 σ) := Con.of (plainFor_of_name (by decide)) rfl (Nat.le_of_ble_eq_true rfl) (fun K hl hG hO hR => by subst hl; subst hG; exact b_X6_grantedAmount hO hR  a1 a2 σ)
theorem cal_X6_grantedAmount : CalV yX6_grantedAmount cX6_grantedAmount 3 (some .boolean) 2 := ⟨a_351, a_352, a_353, a_2, by decide, by decide, by decide +kernel⟩
theorem k_X6_grantedAmount {K : Kt} {nL : Nat} {cs : Nat × Nat} {σ : Wd} {pc : Nat} {lv : List (Nat × Value)} {st : List Value} {cc : ByteArray} {own : String} {rm : Room} {index : Nat} {g : Int32 → Wd → Option (Int32 × Wd)} {a1 : Int32} {a2 : Int32} (hO : Ok K cc own nL rm)  (hl : Cond.methodLink own index yX6_grantedAmount ∈ gtb) (hcat : Nat.ble ((st.map fun v => v.category).sum) 8 = true) (hR : RoomOk rm cs 1 23 3) (d : decode cc pc = .ok (.invokevirtual index, 3)) (kk : ∀ (r : Int32) (σ : Wd), Cm K nL cs (g r σ) σ (pc + 3) lv (.int r :: st)) : Cm K nL cs (bd (f_X6_grantedAmount a1 a2 σ) g) σ pc lv (.int a2 :: .int a1 :: .ref (K.G.A 0) :: st) := r_cVi hO (c_X6_grantedAmount  a1 a2 σ) cal_X6_grantedAmount hl rfl (by decide) ent_X6 rfl rfl hcat hR d kk
/-! OrderSplit.units -/
def f_X6_units (a1 : Int32) (σ : Wd) : Option (Int32 × Wd) := bd (f_X6_grantedAmount (1 : Int32) a1 σ) fun r1 σ2 => if r1 = 0 then (some ((-1 : Int32), σ2)) else (gd (bM (σ2.2.2 0 4)) (bd (f_X1_choose (σ2.2.2 0 4) a1 (-1 : Int32) σ2) fun _ σ4 => some (σ4.1 4 0, σ4)))
set_option maxRecDepth 20000 in
set_option maxHeartbeats 1000000 in
theorem b_X6_units {K : Kt}  (hO : Ok K cX6_units RX6 2 rm_X6_units) (hR : Rt K (some .int))  (a1 : Int32) (σ : Wd) : Cm K 2 (0, 0) (f_X6_units a1 σ) σ 0 [(0, .ref (K.G.A 0)), (1, .int a1)] [] := by
  refine r_aload_n (i := 0) hO rfl rfl dX6_units_0 ?_
  refine r_iconst hO ci_1 dX6_units_1 ?_
  refine r_iload_n (i := 1) hO rfl rfl dX6_units_2 ?_
  refine k_X6_grantedAmount hO a_354 rfl ⟨rfl, rfl, Nat.le_refl _, Nat.le_refl _⟩ dX6_units_3 ?_
  intro r1 σ2
  refine r_if_ne (tgt := 11) hO dX6_units_6 (by decide) ?_ ?_
  · refine r_iconst hO ci_m1 dX6_units_9 ?_
    exact r_iret hO hR dX6_units_10
  · refine r_aload_n (i := 0) hO rfl rfl dX6_units_11 ?_
    refine gX6_21 hO dX6_units_12 ?_
    refine r_aload_n (i := 0) hO rfl rfl dX6_units_15 ?_
    refine r_gd fun h3 => ?_
    refine gX6_39 hO dX6_units_16 ?_
    refine r_iload_n (i := 1) hO rfl rfl dX6_units_19 ?_
    refine r_iconst hO ci_m1 dX6_units_20 ?_
    refine k_X1_choose hO (bM_is h3) a_355 rfl ⟨rfl, rfl, Nat.le_refl _, Nat.le_refl _⟩ dX6_units_21 ?_
    intro _ σ4
    refine r_aload_n (i := 0) hO rfl rfl dX6_units_24 ?_
    refine gX6_21 hO dX6_units_25 ?_
    refine gX6_180 hO dX6_units_28 ?_
    exact r_iret hO hR dX6_units_31
theorem c_X6_units {l : Launch} {G : Gh}   (a1 : Int32) (σ : Wd) : Con l G yX6_units cX6_units 2 (some .int) 4 103 [.ref (G.A 0), .int a1] σ (f_X6_units a1 σ) := Con.of (plainFor_of_name (by decide)) rfl (Nat.le_of_ble_eq_true rfl) (fun K hl hG hO hR => by subst hl; subst hG; exact b_X6_units hO hR  a1 σ)
theorem cal_X6_units : CalV yX6_units cX6_units 2 (some .int) 1 := ⟨a_356, a_357, a_358, a_2, by decide, by decide, by decide +kernel⟩
theorem k_X6_units {K : Kt} {nL : Nat} {cs : Nat × Nat} {σ : Wd} {pc : Nat} {lv : List (Nat × Value)} {st : List Value} {cc : ByteArray} {own : String} {rm : Room} {index : Nat} {g : Int32 → Wd → Option (Int32 × Wd)} {a1 : Int32} (hO : Ok K cc own nL rm)  (hl : Cond.methodLink own index yX6_units ∈ gtb) (hcat : Nat.ble ((st.map fun v => v.category).sum) 8 = true) (hR : RoomOk rm cs 4 103 2) (d : decode cc pc = .ok (.invokevirtual index, 3)) (kk : ∀ (r : Int32) (σ : Wd), Cm K nL cs (g r σ) σ (pc + 3) lv (.int r :: st)) : Cm K nL cs (bd (f_X6_units a1 σ) g) σ pc lv (.int a1 :: .ref (K.G.A 0) :: st) := r_cVi hO (c_X6_units  a1 σ) cal_X6_units hl rfl (by decide) ent_X6 rfl rfl hcat hR d kk
/-! OrderSplit.best -/
def f_X6_best (a1 : Int32) (σ : Wd) : Option (Int32 × Wd) := bd (f_X6_grantedAmount (1 : Int32) a1 σ) fun r1 σ2 => if r1 = 0 then (some ((-2147483648 : Int32), σ2)) else (gd (bM (σ2.2.2 0 4)) (bd (f_X1_choose (σ2.2.2 0 4) a1 (-1 : Int32) σ2) fun _ σ4 => some (σ4.1 4 1, σ4)))
set_option maxRecDepth 20000 in
set_option maxHeartbeats 1000000 in
theorem b_X6_best {K : Kt}  (hO : Ok K cX6_best RX6 2 rm_X6_best) (hR : Rt K (some .int))  (a1 : Int32) (σ : Wd) : Cm K 2 (0, 0) (f_X6_best a1 σ) σ 0 [(0, .ref (K.G.A 0)), (1, .int a1)] [] := by
  refine r_aload_n (i := 0) hO rfl rfl dX6_best_0 ?_
  refine r_iconst hO ci_1 dX6_best_1 ?_
  refine r_iload_n (i := 1) hO rfl rfl dX6_best_2 ?_
  refine k_X6_grantedAmount hO a_354 rfl ⟨rfl, rfl, Nat.le_refl _, Nat.le_refl _⟩ dX6_best_3 ?_
  intro r1 σ2
  refine r_if_ne (tgt := 12) hO dX6_best_6 (by decide) ?_ ?_
  · refine r_ldc hO a_325 dX6_best_9 ?_
    exact r_iret hO hR dX6_best_11
  · refine r_aload_n (i := 0) hO rfl rfl dX6_best_12 ?_
    refine gX6_21 hO dX6_best_13 ?_
    refine r_aload_n (i := 0) hO rfl rfl dX6_best_16 ?_
    refine r_gd fun h3 => ?_
    refine gX6_39 hO dX6_best_17 ?_
    refine r_iload_n (i := 1) hO rfl rfl dX6_best_20 ?_
    refine r_iconst hO ci_m1 dX6_best_21 ?_
    refine k_X1_choose hO (bM_is h3) a_355 rfl ⟨rfl, rfl, Nat.le_refl _, Nat.le_refl _⟩ dX6_best_22 ?_
    intro _ σ4
    refine r_aload_n (i := 0) hO rfl rfl dX6_best_25 ?_
    refine gX6_21 hO dX6_best_26 ?_
    refine gX6_183 hO dX6_best_29 ?_
    exact r_iret hO hR dX6_best_32
theorem c_X6_best {l : Launch} {G : Gh}   (a1 : Int32) (σ : Wd) : Con l G yX6_best cX6_best 2 (some .int) 4 103 [.ref (G.A 0), .int a1] σ (f_X6_best a1 σ) := Con.of (plainFor_of_name (by decide)) rfl (Nat.le_of_ble_eq_true rfl) (fun K hl hG hO hR => by subst hl; subst hG; exact b_X6_best hO hR  a1 σ)
theorem cal_X6_best : CalV yX6_best cX6_best 2 (some .int) 1 := ⟨a_359, a_360, a_361, a_2, by decide, by decide, by decide +kernel⟩
theorem k_X6_best {K : Kt} {nL : Nat} {cs : Nat × Nat} {σ : Wd} {pc : Nat} {lv : List (Nat × Value)} {st : List Value} {cc : ByteArray} {own : String} {rm : Room} {index : Nat} {g : Int32 → Wd → Option (Int32 × Wd)} {a1 : Int32} (hO : Ok K cc own nL rm)  (hl : Cond.methodLink own index yX6_best ∈ gtb) (hcat : Nat.ble ((st.map fun v => v.category).sum) 8 = true) (hR : RoomOk rm cs 4 103 2) (d : decode cc pc = .ok (.invokevirtual index, 3)) (kk : ∀ (r : Int32) (σ : Wd), Cm K nL cs (g r σ) σ (pc + 3) lv (.int r :: st)) : Cm K nL cs (bd (f_X6_best a1 σ) g) σ pc lv (.int a1 :: .ref (K.G.A 0) :: st) := r_cVi hO (c_X6_best  a1 σ) cal_X6_best hl rfl (by decide) ent_X6 rfl rfl hcat hR d kk
/-! OrderSplit.share -/
def f_X6_share (a1 : Int32) (a2 : Int32) (σ : Wd) : Option (Int32 × Wd) := bd (f_X6_isVenue a2 σ) fun r1 σ2 => bd (f_X6_grantedAmount r1 a1 σ2) fun r3 σ4 => if r3 = 0 then (some ((-1 : Int32), σ4)) else (gd (bM (σ4.2.2 0 4)) (bd (f_X1_choose (σ4.2.2 0 4) a1 (-1 : Int32) σ4) fun _ σ6 => gd (inb a2 5) (some (σ6.1 5 (ix a2), σ6))))
set_option maxRecDepth 20000 in
set_option maxHeartbeats 1000000 in
theorem b_X6_share {K : Kt}  (hO : Ok K cX6_share RX6 3 rm_X6_share) (hR : Rt K (some .int))  (a1 : Int32) (a2 : Int32) (σ : Wd) : Cm K 3 (0, 0) (f_X6_share a1 a2 σ) σ 0 [(0, .ref (K.G.A 0)), (1, .int a1), (2, .int a2)] [] := by
  refine r_aload_n (i := 0) hO rfl rfl dX6_share_0 ?_
  refine r_aload_n (i := 0) hO rfl rfl dX6_share_1 ?_
  refine r_iload_n (i := 2) hO rfl rfl dX6_share_2 ?_
  refine k_X6_isVenue hO a_324 rfl ⟨rfl, rfl, Nat.le_refl _, Nat.le_refl _⟩ dX6_share_3 ?_
  intro r1 σ2
  refine r_iload_n (i := 1) hO rfl rfl dX6_share_6 ?_
  refine k_X6_grantedAmount hO a_354 rfl ⟨rfl, rfl, Nat.le_refl _, Nat.le_refl _⟩ dX6_share_7 ?_
  intro r3 σ4
  refine r_if_ne (tgt := 15) hO dX6_share_10 (by decide) ?_ ?_
  · refine r_iconst hO ci_m1 dX6_share_13 ?_
    exact r_iret hO hR dX6_share_14
  · refine r_aload_n (i := 0) hO rfl rfl dX6_share_15 ?_
    refine gX6_21 hO dX6_share_16 ?_
    refine r_aload_n (i := 0) hO rfl rfl dX6_share_19 ?_
    refine r_gd fun h5 => ?_
    refine gX6_39 hO dX6_share_20 ?_
    refine r_iload_n (i := 1) hO rfl rfl dX6_share_23 ?_
    refine r_iconst hO ci_m1 dX6_share_24 ?_
    refine k_X1_choose hO (bM_is h5) a_355 rfl ⟨rfl, rfl, Nat.le_refl _, Nat.le_refl _⟩ dX6_share_25 ?_
    intro _ σ6
    refine r_aload_n (i := 0) hO rfl rfl dX6_share_28 ?_
    refine gX6_21 hO dX6_share_29 ?_
    refine gX6_186 hO dX6_share_32 ?_
    refine r_iload_n (i := 2) hO rfl rfl dX6_share_35 ?_
    refine r_iald hO s_5 dX6_share_36 ?_
    exact r_iret hO hR dX6_share_37
theorem c_X6_share {l : Launch} {G : Gh}   (a1 : Int32) (a2 : Int32) (σ : Wd) : Con l G yX6_share cX6_share 3 (some .int) 4 103 [.ref (G.A 0), .int a1, .int a2] σ (f_X6_share a1 a2 σ) := Con.of (plainFor_of_name (by decide)) rfl (Nat.le_of_ble_eq_true rfl) (fun K hl hG hO hR => by subst hl; subst hG; exact b_X6_share hO hR  a1 a2 σ)
theorem cal_X6_share : CalV yX6_share cX6_share 3 (some .int) 2 := ⟨a_362, a_363, a_364, a_2, by decide, by decide, by decide +kernel⟩
theorem k_X6_share {K : Kt} {nL : Nat} {cs : Nat × Nat} {σ : Wd} {pc : Nat} {lv : List (Nat × Value)} {st : List Value} {cc : ByteArray} {own : String} {rm : Room} {index : Nat} {g : Int32 → Wd → Option (Int32 × Wd)} {a1 : Int32} {a2 : Int32} (hO : Ok K cc own nL rm)  (hl : Cond.methodLink own index yX6_share ∈ gtb) (hcat : Nat.ble ((st.map fun v => v.category).sum) 8 = true) (hR : RoomOk rm cs 4 103 3) (d : decode cc pc = .ok (.invokevirtual index, 3)) (kk : ∀ (r : Int32) (σ : Wd), Cm K nL cs (g r σ) σ (pc + 3) lv (.int r :: st)) : Cm K nL cs (bd (f_X6_share a1 a2 σ) g) σ pc lv (.int a2 :: .int a1 :: .ref (K.G.A 0) :: st) := r_cVi hO (c_X6_share  a1 a2 σ) cal_X6_share hl rfl (by decide) ent_X6 rfl rfl hcat hR d kk
/-! OrderSplit.bound -/
def f_X6_bound (a1 : Int32) (σ : Wd) : Option (Int32 × Wd) := bd (f_X6_grantedAmount (1 : Int32) a1 σ) fun r1 σ2 => if r1 = 0 then (some ((-2147483648 : Int32), σ2)) else (gd (bM (σ2.2.2 0 4)) (bd (f_X0_measure (σ2.2.2 0 4) a1 σ2) fun _ σ4 => some (σ4.1 10 0, σ4)))
set_option maxRecDepth 20000 in
set_option maxHeartbeats 1000000 in
theorem b_X6_bound {K : Kt}  (hO : Ok K cX6_bound RX6 2 rm_X6_bound) (hR : Rt K (some .int))  (a1 : Int32) (σ : Wd) : Cm K 2 (0, 0) (f_X6_bound a1 σ) σ 0 [(0, .ref (K.G.A 0)), (1, .int a1)] [] := by
  refine r_aload_n (i := 0) hO rfl rfl dX6_bound_0 ?_
  refine r_iconst hO ci_1 dX6_bound_1 ?_
  refine r_iload_n (i := 1) hO rfl rfl dX6_bound_2 ?_
  refine k_X6_grantedAmount hO a_354 rfl ⟨rfl, rfl, Nat.le_refl _, Nat.le_refl _⟩ dX6_bound_3 ?_
  intro r1 σ2
  refine r_if_ne (tgt := 12) hO dX6_bound_6 (by decide) ?_ ?_
  · refine r_ldc hO a_325 dX6_bound_9 ?_
    exact r_iret hO hR dX6_bound_11
  · refine r_aload_n (i := 0) hO rfl rfl dX6_bound_12 ?_
    refine gX6_28 hO dX6_bound_13 ?_
    refine r_aload_n (i := 0) hO rfl rfl dX6_bound_16 ?_
    refine r_gd fun h3 => ?_
    refine gX6_39 hO dX6_bound_17 ?_
    refine r_iload_n (i := 1) hO rfl rfl dX6_bound_20 ?_
    refine k_X0_measure hO (bM_is h3) a_365 rfl ⟨rfl, rfl, Nat.le_refl _, Nat.le_refl _⟩ dX6_bound_21 ?_
    intro _ σ4
    refine r_aload_n (i := 0) hO rfl rfl dX6_bound_24 ?_
    refine gX6_28 hO dX6_bound_25 ?_
    refine gX6_193 hO dX6_bound_28 ?_
    exact r_iret hO hR dX6_bound_31
theorem c_X6_bound {l : Launch} {G : Gh}   (a1 : Int32) (σ : Wd) : Con l G yX6_bound cX6_bound 2 (some .int) 4 96 [.ref (G.A 0), .int a1] σ (f_X6_bound a1 σ) := Con.of (plainFor_of_name (by decide)) rfl (Nat.le_of_ble_eq_true rfl) (fun K hl hG hO hR => by subst hl; subst hG; exact b_X6_bound hO hR  a1 σ)
theorem cal_X6_bound : CalV yX6_bound cX6_bound 2 (some .int) 1 := ⟨a_366, a_367, a_368, a_2, by decide, by decide, by decide +kernel⟩
theorem k_X6_bound {K : Kt} {nL : Nat} {cs : Nat × Nat} {σ : Wd} {pc : Nat} {lv : List (Nat × Value)} {st : List Value} {cc : ByteArray} {own : String} {rm : Room} {index : Nat} {g : Int32 → Wd → Option (Int32 × Wd)} {a1 : Int32} (hO : Ok K cc own nL rm)  (hl : Cond.methodLink own index yX6_bound ∈ gtb) (hcat : Nat.ble ((st.map fun v => v.category).sum) 8 = true) (hR : RoomOk rm cs 4 96 2) (d : decode cc pc = .ok (.invokevirtual index, 3)) (kk : ∀ (r : Int32) (σ : Wd), Cm K nL cs (g r σ) σ (pc + 3) lv (.int r :: st)) : Cm K nL cs (bd (f_X6_bound a1 σ) g) σ pc lv (.int a1 :: .ref (K.G.A 0) :: st) := r_cVi hO (c_X6_bound  a1 σ) cal_X6_bound hl rfl (by decide) ent_X6 rfl rfl hcat hR d kk
/-! OrderSplit.margin -/
def f_X6_margin (a1 : Int32) (σ : Wd) : Option (Int32 × Wd) := bd (f_X6_grantedAmount (1 : Int32) a1 σ) fun r1 σ2 => if r1 = 0 then (some ((-2147483648 : Int32), σ2)) else (gd (bM (σ2.2.2 0 4)) (bd (f_X0_measure (σ2.2.2 0 4) a1 σ2) fun _ σ4 => some (σ4.1 10 1, σ4)))
set_option maxRecDepth 20000 in
set_option maxHeartbeats 1000000 in
theorem b_X6_margin {K : Kt}  (hO : Ok K cX6_margin RX6 2 rm_X6_margin) (hR : Rt K (some .int))  (a1 : Int32) (σ : Wd) : Cm K 2 (0, 0) (f_X6_margin a1 σ) σ 0 [(0, .ref (K.G.A 0)), (1, .int a1)] [] := by
  refine r_aload_n (i := 0) hO rfl rfl dX6_margin_0 ?_
  refine r_iconst hO ci_1 dX6_margin_1 ?_
  refine r_iload_n (i := 1) hO rfl rfl dX6_margin_2 ?_
  refine k_X6_grantedAmount hO a_354 rfl ⟨rfl, rfl, Nat.le_refl _, Nat.le_refl _⟩ dX6_margin_3 ?_
  intro r1 σ2
  refine r_if_ne (tgt := 12) hO dX6_margin_6 (by decide) ?_ ?_
  · refine r_ldc hO a_325 dX6_margin_9 ?_
    exact r_iret hO hR dX6_margin_11
  · refine r_aload_n (i := 0) hO rfl rfl dX6_margin_12 ?_
    refine gX6_28 hO dX6_margin_13 ?_
    refine r_aload_n (i := 0) hO rfl rfl dX6_margin_16 ?_
    refine r_gd fun h3 => ?_
    refine gX6_39 hO dX6_margin_17 ?_
    refine r_iload_n (i := 1) hO rfl rfl dX6_margin_20 ?_
    refine k_X0_measure hO (bM_is h3) a_365 rfl ⟨rfl, rfl, Nat.le_refl _, Nat.le_refl _⟩ dX6_margin_21 ?_
    intro _ σ4
    refine r_aload_n (i := 0) hO rfl rfl dX6_margin_24 ?_
    refine gX6_28 hO dX6_margin_25 ?_
    refine gX6_196 hO dX6_margin_28 ?_
    exact r_iret hO hR dX6_margin_31
theorem c_X6_margin {l : Launch} {G : Gh}   (a1 : Int32) (σ : Wd) : Con l G yX6_margin cX6_margin 2 (some .int) 4 96 [.ref (G.A 0), .int a1] σ (f_X6_margin a1 σ) := Con.of (plainFor_of_name (by decide)) rfl (Nat.le_of_ble_eq_true rfl) (fun K hl hG hO hR => by subst hl; subst hG; exact b_X6_margin hO hR  a1 σ)
theorem cal_X6_margin : CalV yX6_margin cX6_margin 2 (some .int) 1 := ⟨a_369, a_370, a_371, a_2, by decide, by decide, by decide +kernel⟩
theorem k_X6_margin {K : Kt} {nL : Nat} {cs : Nat × Nat} {σ : Wd} {pc : Nat} {lv : List (Nat × Value)} {st : List Value} {cc : ByteArray} {own : String} {rm : Room} {index : Nat} {g : Int32 → Wd → Option (Int32 × Wd)} {a1 : Int32} (hO : Ok K cc own nL rm)  (hl : Cond.methodLink own index yX6_margin ∈ gtb) (hcat : Nat.ble ((st.map fun v => v.category).sum) 8 = true) (hR : RoomOk rm cs 4 96 2) (d : decode cc pc = .ok (.invokevirtual index, 3)) (kk : ∀ (r : Int32) (σ : Wd), Cm K nL cs (g r σ) σ (pc + 3) lv (.int r :: st)) : Cm K nL cs (bd (f_X6_margin a1 σ) g) σ pc lv (.int a1 :: .ref (K.G.A 0) :: st) := r_cVi hO (c_X6_margin  a1 σ) cal_X6_margin hl rfl (by decide) ent_X6 rfl rfl hcat hR d kk
/-! OrderSplit.gap -/
def f_X6_gap (a1 : Int32) (σ : Wd) : Option (Int32 × Wd) := bd (f_X6_grantedAmount (1 : Int32) a1 σ) fun r1 σ2 => if r1 = 0 then (some ((-1 : Int32), σ2)) else (gd (bM (σ2.2.2 0 4)) (bd (f_X1_choose (σ2.2.2 0 4) a1 (-1 : Int32) σ2) fun _ σ4 => gd (bM (σ4.2.2 0 4)) (bd (f_X0_measure (σ4.2.2 0 4) (σ4.1 4 0) σ4) fun _ σ6 => some ((σ6.1 4 1) - (σ6.1 10 0), σ6))))
set_option maxRecDepth 20000 in
set_option maxHeartbeats 1000000 in
theorem b_X6_gap {K : Kt}  (hO : Ok K cX6_gap RX6 2 rm_X6_gap) (hR : Rt K (some .int))  (a1 : Int32) (σ : Wd) : Cm K 2 (0, 0) (f_X6_gap a1 σ) σ 0 [(0, .ref (K.G.A 0)), (1, .int a1)] [] := by
  refine r_aload_n (i := 0) hO rfl rfl dX6_gap_0 ?_
  refine r_iconst hO ci_1 dX6_gap_1 ?_
  refine r_iload_n (i := 1) hO rfl rfl dX6_gap_2 ?_
  refine k_X6_grantedAmount hO a_354 rfl ⟨rfl, rfl, Nat.le_refl _, Nat.le_refl _⟩ dX6_gap_3 ?_
  intro r1 σ2
  refine r_if_ne (tgt := 11) hO dX6_gap_6 (by decide) ?_ ?_
  · refine r_iconst hO ci_m1 dX6_gap_9 ?_
    exact r_iret hO hR dX6_gap_10
  · refine r_aload_n (i := 0) hO rfl rfl dX6_gap_11 ?_
    refine gX6_21 hO dX6_gap_12 ?_
    refine r_aload_n (i := 0) hO rfl rfl dX6_gap_15 ?_
    refine r_gd fun h3 => ?_
    refine gX6_39 hO dX6_gap_16 ?_
    refine r_iload_n (i := 1) hO rfl rfl dX6_gap_19 ?_
    refine r_iconst hO ci_m1 dX6_gap_20 ?_
    refine k_X1_choose hO (bM_is h3) a_355 rfl ⟨rfl, rfl, Nat.le_refl _, Nat.le_refl _⟩ dX6_gap_21 ?_
    intro _ σ4
    refine r_aload_n (i := 0) hO rfl rfl dX6_gap_24 ?_
    refine gX6_28 hO dX6_gap_25 ?_
    refine r_aload_n (i := 0) hO rfl rfl dX6_gap_28 ?_
    refine r_gd fun h5 => ?_
    refine gX6_39 hO dX6_gap_29 ?_
    refine r_aload_n (i := 0) hO rfl rfl dX6_gap_32 ?_
    refine gX6_21 hO dX6_gap_33 ?_
    refine gX6_180 hO dX6_gap_36 ?_
    refine k_X0_measure hO (bM_is h5) a_365 rfl ⟨rfl, rfl, Nat.le_refl _, Nat.le_refl _⟩ dX6_gap_39 ?_
    intro _ σ6
    refine r_aload_n (i := 0) hO rfl rfl dX6_gap_42 ?_
    refine gX6_21 hO dX6_gap_43 ?_
    refine gX6_183 hO dX6_gap_46 ?_
    refine r_aload_n (i := 0) hO rfl rfl dX6_gap_49 ?_
    refine gX6_28 hO dX6_gap_50 ?_
    refine gX6_193 hO dX6_gap_53 ?_
    refine r_isub hO dX6_gap_56 ?_
    exact r_iret hO hR dX6_gap_57
theorem c_X6_gap {l : Launch} {G : Gh}   (a1 : Int32) (σ : Wd) : Con l G yX6_gap cX6_gap 2 (some .int) 4 103 [.ref (G.A 0), .int a1] σ (f_X6_gap a1 σ) := Con.of (plainFor_of_name (by decide)) rfl (Nat.le_of_ble_eq_true rfl) (fun K hl hG hO hR => by subst hl; subst hG; exact b_X6_gap hO hR  a1 σ)
theorem cal_X6_gap : CalV yX6_gap cX6_gap 2 (some .int) 1 := ⟨a_372, a_373, a_374, a_2, by decide, by decide, by decide +kernel⟩
theorem k_X6_gap {K : Kt} {nL : Nat} {cs : Nat × Nat} {σ : Wd} {pc : Nat} {lv : List (Nat × Value)} {st : List Value} {cc : ByteArray} {own : String} {rm : Room} {index : Nat} {g : Int32 → Wd → Option (Int32 × Wd)} {a1 : Int32} (hO : Ok K cc own nL rm)  (hl : Cond.methodLink own index yX6_gap ∈ gtb) (hcat : Nat.ble ((st.map fun v => v.category).sum) 8 = true) (hR : RoomOk rm cs 4 103 2) (d : decode cc pc = .ok (.invokevirtual index, 3)) (kk : ∀ (r : Int32) (σ : Wd), Cm K nL cs (g r σ) σ (pc + 3) lv (.int r :: st)) : Cm K nL cs (bd (f_X6_gap a1 σ) g) σ pc lv (.int a1 :: .ref (K.G.A 0) :: st) := r_cVi hO (c_X6_gap  a1 σ) cal_X6_gap hl rfl (by decide) ent_X6 rfl rfl hcat hR d kk
/-! OrderSplit.greedy -/
def f_X6_greedy (a1 : Int32) (a2 : Int32) (σ : Wd) : Option (Int32 × Wd) := bd (f_X6_within a2 (0 : Int32) (2 : Int32) σ) fun r1 σ2 => bd (f_X6_grantedAmount r1 a1 σ2) fun r3 σ4 => if r3 = 0 then (some ((-2147483648 : Int32), σ4)) else (gd (bM (σ4.2.2 0 4)) (bd (f_X1_chooseGreedily (σ4.2.2 0 4) a1 σ4) fun _ σ6 => if a2 = (0 : Int32) then (some (σ6.1 4 1, σ6)) else (if a2 = (1 : Int32) then (some (σ6.1 4 0, σ6)) else (gd (bM (σ6.2.2 0 4)) (bd (f_X1_venuesUsed (σ6.2.2 0 4) σ6) fun r8 σ9 => some (r8, σ9))))))
set_option maxRecDepth 20000 in
set_option maxHeartbeats 1000000 in
theorem b_X6_greedy {K : Kt}  (hO : Ok K cX6_greedy RX6 3 rm_X6_greedy) (hR : Rt K (some .int))  (a1 : Int32) (a2 : Int32) (σ : Wd) : Cm K 3 (0, 0) (f_X6_greedy a1 a2 σ) σ 0 [(0, .ref (K.G.A 0)), (1, .int a1), (2, .int a2)] [] := by
  refine r_aload_n (i := 0) hO rfl rfl dX6_greedy_0 ?_
  refine r_iload_n (i := 2) hO rfl rfl dX6_greedy_1 ?_
  refine r_iconst hO ci_0 dX6_greedy_2 ?_
  refine r_iconst hO ci_2 dX6_greedy_3 ?_
  refine k_X6_within hO a_316 rfl ⟨rfl, rfl, Nat.le_refl _, Nat.le_refl _⟩ dX6_greedy_4 ?_
  intro r1 σ2
  refine r_iload_n (i := 1) hO rfl rfl dX6_greedy_7 ?_
  refine k_X6_grantedAmount hO a_354 rfl ⟨rfl, rfl, Nat.le_refl _, Nat.le_refl _⟩ dX6_greedy_8 ?_
  intro r3 σ4
  refine r_if_ne (tgt := 17) hO dX6_greedy_11 (by decide) ?_ ?_
  · refine r_ldc hO a_325 dX6_greedy_14 ?_
    exact r_iret hO hR dX6_greedy_16
  · refine r_aload_n (i := 0) hO rfl rfl dX6_greedy_17 ?_
    refine gX6_21 hO dX6_greedy_18 ?_
    refine r_aload_n (i := 0) hO rfl rfl dX6_greedy_21 ?_
    refine r_gd fun h5 => ?_
    refine gX6_39 hO dX6_greedy_22 ?_
    refine r_iload_n (i := 1) hO rfl rfl dX6_greedy_25 ?_
    refine k_X1_chooseGreedily hO (bM_is h5) a_375 rfl ⟨rfl, rfl, Nat.le_refl _, Nat.le_refl _⟩ dX6_greedy_26 ?_
    intro _ σ6
    refine r_iload_n (i := 2) hO rfl rfl dX6_greedy_29 ?_
    refine r_if (fun hc => ?_) (fun hc0 => ?_)
    · refine r_lsw (off := 26) (tgt := 56) hO dX6_greedy_30 rfl (by first | (rw [hc]; rfl) | rw [hc]) (by decide) ?_
      refine r_aload_n (i := 0) hO rfl rfl dX6_greedy_56 ?_
      refine gX6_21 hO dX6_greedy_57 ?_
      refine gX6_183 hO dX6_greedy_60 ?_
      exact r_iret hO hR dX6_greedy_63
    · refine r_if (fun hc => ?_) (fun hc1 => ?_)
      · refine r_lsw (off := 34) (tgt := 64) hO dX6_greedy_30 rfl (by first | (rw [hc]; rfl) | rw [hc]) (by decide) ?_
        refine r_aload_n (i := 0) hO rfl rfl dX6_greedy_64 ?_
        refine gX6_21 hO dX6_greedy_65 ?_
        refine gX6_180 hO dX6_greedy_68 ?_
        exact r_iret hO hR dX6_greedy_71
      · refine r_lsw (off := 42) (tgt := 72) hO dX6_greedy_30 rfl ((lv_osw (a := 0) hc0 rfl).trans ((lv_osw (a := 1) hc1 rfl).trans (rfl))) (by decide) ?_
        refine r_aload_n (i := 0) hO rfl rfl dX6_greedy_72 ?_
        refine gX6_21 hO dX6_greedy_73 ?_
        refine r_aload_n (i := 0) hO rfl rfl dX6_greedy_76 ?_
        refine r_gd fun h7 => ?_
        refine gX6_39 hO dX6_greedy_77 ?_
        refine k_X1_venuesUsed hO (bM_is h7) a_376 rfl ⟨rfl, rfl, Nat.le_refl _, Nat.le_refl _⟩ dX6_greedy_80 ?_
        intro r8 σ9
        exact r_iret hO hR dX6_greedy_83
theorem c_X6_greedy {l : Launch} {G : Gh}   (a1 : Int32) (a2 : Int32) (σ : Wd) : Con l G yX6_greedy cX6_greedy 3 (some .int) 4 101 [.ref (G.A 0), .int a1, .int a2] σ (f_X6_greedy a1 a2 σ) := Con.of (plainFor_of_name (by decide)) rfl (Nat.le_of_ble_eq_true rfl) (fun K hl hG hO hR => by subst hl; subst hG; exact b_X6_greedy hO hR  a1 a2 σ)
theorem cal_X6_greedy : CalV yX6_greedy cX6_greedy 3 (some .int) 2 := ⟨a_377, a_378, a_379, a_2, by decide, by decide, by decide +kernel⟩
theorem k_X6_greedy {K : Kt} {nL : Nat} {cs : Nat × Nat} {σ : Wd} {pc : Nat} {lv : List (Nat × Value)} {st : List Value} {cc : ByteArray} {own : String} {rm : Room} {index : Nat} {g : Int32 → Wd → Option (Int32 × Wd)} {a1 : Int32} {a2 : Int32} (hO : Ok K cc own nL rm)  (hl : Cond.methodLink own index yX6_greedy ∈ gtb) (hcat : Nat.ble ((st.map fun v => v.category).sum) 8 = true) (hR : RoomOk rm cs 4 101 3) (d : decode cc pc = .ok (.invokevirtual index, 3)) (kk : ∀ (r : Int32) (σ : Wd), Cm K nL cs (g r σ) σ (pc + 3) lv (.int r :: st)) : Cm K nL cs (bd (f_X6_greedy a1 a2 σ) g) σ pc lv (.int a2 :: .int a1 :: .ref (K.G.A 0) :: st) := r_cVi hO (c_X6_greedy  a1 a2 σ) cal_X6_greedy hl rfl (by decide) ent_X6 rfl rfl hcat hR d kk
/-! OrderSplit.worth -/
def f_X6_worth_84   (s0 : Int32) (σ : Wd) : Option (Int32 × Wd) := some (s0, σ)
def f_X6_worth (a1 : Int32) (a2 : Int32) (σ : Wd) : Option (Int32 × Wd) := bd (f_X6_isVenue a2 σ) fun r1 σ2 => bd (f_X6_grantedAmount r1 a1 σ2) fun r3 σ4 => if r3 = 0 then (some ((-1 : Int32), σ4)) else (gd (bM (σ4.2.2 0 4)) (bd (f_X1_choose (σ4.2.2 0 4) a1 (-1 : Int32) σ4) fun _ σ6 => gd (bM (σ6.2.2 0 4)) (bd (f_X1_choose (σ6.2.2 0 4) a1 a2 σ6) fun _ σ8 => if (σ6.1 4 0) ≤ (σ8.1 4 0) then (f_X6_worth_84 ((σ8.1 4 1) - (σ6.1 4 1)) σ8) else (f_X6_worth_84 (-2 : Int32) σ8))))
set_option maxRecDepth 20000 in
set_option maxHeartbeats 1000000 in
theorem b_X6_worth_84 {K : Kt}   (hO : Ok K cX6_worth RX6 5 rm_X6_worth) (hR : Rt K (some .int))   (s0 : Int32) (σ : Wd)  : Cm K 5 (0, 0) (f_X6_worth_84  s0 σ) σ 84 [] [.int s0] := by
  exact r_iret hO hR dX6_worth_84
set_option maxRecDepth 20000 in
set_option maxHeartbeats 1000000 in
theorem b_X6_worth {K : Kt}  (hO : Ok K cX6_worth RX6 5 rm_X6_worth) (hR : Rt K (some .int))  (a1 : Int32) (a2 : Int32) (σ : Wd) : Cm K 5 (0, 0) (f_X6_worth a1 a2 σ) σ 0 [(0, .ref (K.G.A 0)), (1, .int a1), (2, .int a2)] [] := by
  refine r_aload_n (i := 0) hO rfl rfl dX6_worth_0 ?_
  refine r_aload_n (i := 0) hO rfl rfl dX6_worth_1 ?_
  refine r_iload_n (i := 2) hO rfl rfl dX6_worth_2 ?_
  refine k_X6_isVenue hO a_324 rfl ⟨rfl, rfl, Nat.le_refl _, Nat.le_refl _⟩ dX6_worth_3 ?_
  intro r1 σ2
  refine r_iload_n (i := 1) hO rfl rfl dX6_worth_6 ?_
  refine k_X6_grantedAmount hO a_354 rfl ⟨rfl, rfl, Nat.le_refl _, Nat.le_refl _⟩ dX6_worth_7 ?_
  intro r3 σ4
  refine r_if_ne (tgt := 15) hO dX6_worth_10 (by decide) ?_ ?_
  · refine r_iconst hO ci_m1 dX6_worth_13 ?_
    exact r_iret hO hR dX6_worth_14
  · refine r_aload_n (i := 0) hO rfl rfl dX6_worth_15 ?_
    refine gX6_21 hO dX6_worth_16 ?_
    refine r_aload_n (i := 0) hO rfl rfl dX6_worth_19 ?_
    refine r_gd fun h5 => ?_
    refine gX6_39 hO dX6_worth_20 ?_
    refine r_iload_n (i := 1) hO rfl rfl dX6_worth_23 ?_
    refine r_iconst hO ci_m1 dX6_worth_24 ?_
    refine k_X1_choose hO (bM_is h5) a_355 rfl ⟨rfl, rfl, Nat.le_refl _, Nat.le_refl _⟩ dX6_worth_25 ?_
    intro _ σ6
    refine r_aload_n (i := 0) hO rfl rfl dX6_worth_28 ?_
    refine gX6_21 hO dX6_worth_29 ?_
    refine gX6_180 hO dX6_worth_32 ?_
    refine r_istore_n (i := 3) hO rfl rfl rfl dX6_worth_35 ?_
    refine r_aload_n (i := 0) hO rfl rfl dX6_worth_36 ?_
    refine gX6_21 hO dX6_worth_37 ?_
    refine gX6_183 hO dX6_worth_40 ?_
    refine r_istore hO rfl rfl dX6_worth_43 ?_
    refine r_aload_n (i := 0) hO rfl rfl dX6_worth_45 ?_
    refine gX6_21 hO dX6_worth_46 ?_
    refine r_aload_n (i := 0) hO rfl rfl dX6_worth_49 ?_
    refine r_gd fun h7 => ?_
    refine gX6_39 hO dX6_worth_50 ?_
    refine r_iload_n (i := 1) hO rfl rfl dX6_worth_53 ?_
    refine r_iload_n (i := 2) hO rfl rfl dX6_worth_54 ?_
    refine k_X1_choose hO (bM_is h7) a_355 rfl ⟨rfl, rfl, Nat.le_refl _, Nat.le_refl _⟩ dX6_worth_55 ?_
    intro _ σ8
    refine r_aload_n (i := 0) hO rfl rfl dX6_worth_58 ?_
    refine gX6_21 hO dX6_worth_59 ?_
    refine gX6_180 hO dX6_worth_62 ?_
    refine r_iload_n (i := 3) hO rfl rfl dX6_worth_65 ?_
    refine r_icmp_ge (tgt := 74) hO dX6_worth_66 (by decide) ?_ ?_
    · refine r_aload_n (i := 0) hO rfl rfl dX6_worth_74 ?_
      refine gX6_21 hO dX6_worth_75 ?_
      refine gX6_183 hO dX6_worth_78 ?_
      refine r_iload hO (d := dX6_worth_81) rfl ?_
      refine r_isub hO dX6_worth_83 ?_
      exact r_jmp (b_X6_worth_84 hO hR ((σ8.1 4 1) - (σ6.1 4 1)) σ8) lsub_n
    · refine r_bipush hO bi_m2 dX6_worth_69 ?_
      refine r_goto (tgt := 84) hO dX6_worth_71 (by decide) ?_
      exact r_jmp (b_X6_worth_84 hO hR (-2 : Int32) σ8) lsub_n
theorem c_X6_worth {l : Launch} {G : Gh}   (a1 : Int32) (a2 : Int32) (σ : Wd) : Con l G yX6_worth cX6_worth 5 (some .int) 4 103 [.ref (G.A 0), .int a1, .int a2] σ (f_X6_worth a1 a2 σ) := Con.of (plainFor_of_name (by decide)) rfl (Nat.le_of_ble_eq_true rfl) (fun K hl hG hO hR => by subst hl; subst hG; exact b_X6_worth hO hR  a1 a2 σ)
theorem cal_X6_worth : CalV yX6_worth cX6_worth 5 (some .int) 2 := ⟨a_380, a_381, a_382, a_2, by decide, by decide, by decide +kernel⟩
theorem k_X6_worth {K : Kt} {nL : Nat} {cs : Nat × Nat} {σ : Wd} {pc : Nat} {lv : List (Nat × Value)} {st : List Value} {cc : ByteArray} {own : String} {rm : Room} {index : Nat} {g : Int32 → Wd → Option (Int32 × Wd)} {a1 : Int32} {a2 : Int32} (hO : Ok K cc own nL rm)  (hl : Cond.methodLink own index yX6_worth ∈ gtb) (hcat : Nat.ble ((st.map fun v => v.category).sum) 8 = true) (hR : RoomOk rm cs 4 103 5) (d : decode cc pc = .ok (.invokevirtual index, 3)) (kk : ∀ (r : Int32) (σ : Wd), Cm K nL cs (g r σ) σ (pc + 3) lv (.int r :: st)) : Cm K nL cs (bd (f_X6_worth a1 a2 σ) g) σ pc lv (.int a2 :: .int a1 :: .ref (K.G.A 0) :: st) := r_cVi hO (c_X6_worth  a1 a2 σ) cal_X6_worth hl rfl (by decide) ent_X6 rfl rfl hcat hR d kk
/-! OrderSplit.fewest -/
def f_X6_fewest (a1 : Int32) (σ : Wd) : Option (Int32 × Wd) := bd (f_X6_grantedAmount (1 : Int32) a1 σ) fun r1 σ2 => if r1 = 0 then (some ((-1 : Int32), σ2)) else (gd (bM (σ2.2.2 0 4)) (bd (f_X1_fewestVenues (σ2.2.2 0 4) a1 σ2) fun r4 σ5 => some (r4, σ5)))
set_option maxRecDepth 20000 in
set_option maxHeartbeats 1000000 in
theorem b_X6_fewest {K : Kt}  (hO : Ok K cX6_fewest RX6 2 rm_X6_fewest) (hR : Rt K (some .int))  (a1 : Int32) (σ : Wd) : Cm K 2 (0, 0) (f_X6_fewest a1 σ) σ 0 [(0, .ref (K.G.A 0)), (1, .int a1)] [] := by
  refine r_aload_n (i := 0) hO rfl rfl dX6_fewest_0 ?_
  refine r_iconst hO ci_1 dX6_fewest_1 ?_
  refine r_iload_n (i := 1) hO rfl rfl dX6_fewest_2 ?_
  refine k_X6_grantedAmount hO a_354 rfl ⟨rfl, rfl, Nat.le_refl _, Nat.le_refl _⟩ dX6_fewest_3 ?_
  intro r1 σ2
  refine r_if_ne (tgt := 11) hO dX6_fewest_6 (by decide) ?_ ?_
  · refine r_iconst hO ci_m1 dX6_fewest_9 ?_
    exact r_iret hO hR dX6_fewest_10
  · refine r_aload_n (i := 0) hO rfl rfl dX6_fewest_11 ?_
    refine gX6_21 hO dX6_fewest_12 ?_
    refine r_aload_n (i := 0) hO rfl rfl dX6_fewest_15 ?_
    refine r_gd fun h3 => ?_
    refine gX6_39 hO dX6_fewest_16 ?_
    refine r_iload_n (i := 1) hO rfl rfl dX6_fewest_19 ?_
    refine k_X1_fewestVenues hO (bM_is h3) a_383 rfl ⟨rfl, rfl, Nat.le_refl _, Nat.le_refl _⟩ dX6_fewest_20 ?_
    intro r4 σ5
    exact r_iret hO hR dX6_fewest_23
theorem c_X6_fewest {l : Launch} {G : Gh}   (a1 : Int32) (σ : Wd) : Con l G yX6_fewest cX6_fewest 2 (some .int) 3 76 [.ref (G.A 0), .int a1] σ (f_X6_fewest a1 σ) := Con.of (plainFor_of_name (by decide)) rfl (Nat.le_of_ble_eq_true rfl) (fun K hl hG hO hR => by subst hl; subst hG; exact b_X6_fewest hO hR  a1 σ)
theorem cal_X6_fewest : CalV yX6_fewest cX6_fewest 2 (some .int) 1 := ⟨a_384, a_385, a_386, a_2, by decide, by decide, by decide +kernel⟩
theorem k_X6_fewest {K : Kt} {nL : Nat} {cs : Nat × Nat} {σ : Wd} {pc : Nat} {lv : List (Nat × Value)} {st : List Value} {cc : ByteArray} {own : String} {rm : Room} {index : Nat} {g : Int32 → Wd → Option (Int32 × Wd)} {a1 : Int32} (hO : Ok K cc own nL rm)  (hl : Cond.methodLink own index yX6_fewest ∈ gtb) (hcat : Nat.ble ((st.map fun v => v.category).sum) 8 = true) (hR : RoomOk rm cs 3 76 2) (d : decode cc pc = .ok (.invokevirtual index, 3)) (kk : ∀ (r : Int32) (σ : Wd), Cm K nL cs (g r σ) σ (pc + 3) lv (.int r :: st)) : Cm K nL cs (bd (f_X6_fewest a1 σ) g) σ pc lv (.int a1 :: .ref (K.G.A 0) :: st) := r_cVi hO (c_X6_fewest  a1 σ) cal_X6_fewest hl rfl (by decide) ent_X6 rfl rfl hcat hR d kk
/-! OrderSplit.plan -/
def f_X6_plan_46   (x1 : Int32) (x2 : Int32) (s1 : Int32) (s2 : Int32) (s3 : Int32) (σ : Wd) : Option (Int32 × Wd) := bd (f_X6_granted s1 s2 s3 σ) fun r1 σ2 => if r1 = 0 then (some ((-1 : Int32), σ2)) else (gd (bM (σ2.2.2 0 4)) (gd (inb x1 5) (gd (bM (σ2.2.2 0 4)) (gd (inb x1 5) (nmW (wi σ2 ((σ2.2.2 0 4) + 7) (ix x1) x2) fun σ5 => some (σ2.1 ((σ2.2.2 0 4) + 7) (ix x1), σ5))))))
def f_X6_plan_31   (x1 : Int32) (x2 : Int32) (s1 : Int32) (s2 : Int32) (σ : Wd) : Option (Int32 × Wd) := if (σ.1 63 0) = 0 then (f_X6_plan_46 x1 x2 s1 s2 (1 : Int32) σ) else (f_X6_plan_46 x1 x2 s1 s2 (0 : Int32) σ)
def f_X6_plan_30   (x1 : Int32) (x2 : Int32) (s1 : Int32) (σ : Wd) : Option (Int32 × Wd) := (f_X6_plan_31 x1 x2 s1 (0 : Int32) σ)
def f_X6_plan (a1 : Int32) (a2 : Int32) (σ : Wd) : Option (Int32 × Wd) := bd (f_X6_isVenue a1 σ) fun r1 σ2 => bd (f_X6_isVenue a1 σ2) fun r3 σ4 => if r3 = 0 then (f_X6_plan_30 a1 a2 r1 σ4) else (gd (bM (σ4.2.2 0 4)) (bd (f_X3_canBePlanned (σ4.2.2 0 4) a1 a2 σ4) fun r6 σ7 => if r6 = 0 then (f_X6_plan_30 a1 a2 r1 σ7) else (f_X6_plan_31 a1 a2 r1 (1 : Int32) σ7)))
set_option maxRecDepth 20000 in
set_option maxHeartbeats 1000000 in
theorem b_X6_plan_46 {K : Kt}   (hO : Ok K cX6_plan RX6 4 rm_X6_plan) (hR : Rt K (some .int))   (x1 : Int32) (x2 : Int32) (s1 : Int32) (s2 : Int32) (s3 : Int32) (σ : Wd)  : Cm K 4 (0, 0) (f_X6_plan_46  x1 x2 s1 s2 s3 σ) σ 46 [(0, .ref (K.G.A 0)), (1, .int x1), (2, .int x2)] [.int s3, .int s2, .int s1, .ref (K.G.A 0)] := by
  refine k_X6_granted hO a_317 rfl ⟨rfl, rfl, Nat.le_refl _, Nat.le_refl _⟩ dX6_plan_46 ?_
  intro r1 σ2
  refine r_if_ne (tgt := 54) hO dX6_plan_49 (by decide) ?_ ?_
  · refine r_iconst hO ci_m1 dX6_plan_52 ?_
    exact r_iret hO hR dX6_plan_53
  · refine r_aload_n (i := 0) hO rfl rfl dX6_plan_54 ?_
    refine r_gd fun h3 => ?_
    refine gX6_39 hO dX6_plan_55 ?_
    refine gX6_216 hO (bM_is h3) dX6_plan_58 ?_
    refine r_iload_n (i := 1) hO rfl rfl dX6_plan_61 ?_
    refine r_iald hO (sM_7 (bM_is h3)) dX6_plan_62 ?_
    refine r_istore_n (i := 3) hO rfl rfl rfl dX6_plan_63 ?_
    refine r_aload_n (i := 0) hO rfl rfl dX6_plan_64 ?_
    refine r_gd fun h4 => ?_
    refine gX6_39 hO dX6_plan_65 ?_
    refine gX6_216 hO (bM_is h4) dX6_plan_68 ?_
    refine r_iload_n (i := 1) hO rfl rfl dX6_plan_71 ?_
    refine r_iload_n (i := 2) hO rfl rfl dX6_plan_72 ?_
    refine r_iast hO (sM_7 (bM_is h4)) dX6_plan_73 ?_
    refine r_nmW fun σ5 => ?_
    refine r_iload_n (i := 3) hO rfl rfl dX6_plan_74 ?_
    exact r_iret hO hR dX6_plan_75
set_option maxRecDepth 20000 in
set_option maxHeartbeats 1000000 in
theorem b_X6_plan_31 {K : Kt}   (hO : Ok K cX6_plan RX6 4 rm_X6_plan) (hR : Rt K (some .int))   (x1 : Int32) (x2 : Int32) (s1 : Int32) (s2 : Int32) (σ : Wd)  : Cm K 4 (0, 0) (f_X6_plan_31  x1 x2 s1 s2 σ) σ 31 [(0, .ref (K.G.A 0)), (1, .int x1), (2, .int x2)] [.int s2, .int s1, .ref (K.G.A 0)] := by
  refine r_aload_n (i := 0) hO rfl rfl dX6_plan_31 ?_
  refine gX6_51 hO dX6_plan_32 ?_
  refine gX6_213 hO iR63 dX6_plan_35 ?_
  refine r_if_ne (tgt := 45) hO dX6_plan_38 (by decide) ?_ ?_
  · refine r_iconst hO ci_1 dX6_plan_41 ?_
    refine r_goto (tgt := 46) hO dX6_plan_42 (by decide) ?_
    exact r_jmp (b_X6_plan_46 hO hR x1 x2 s1 s2 (1 : Int32) σ) (lsub_c rfl (lsub_c rfl (lsub_c rfl lsub_n)))
  · refine r_iconst hO ci_0 dX6_plan_45 ?_
    exact r_jmp (b_X6_plan_46 hO hR x1 x2 s1 s2 (0 : Int32) σ) (lsub_c rfl (lsub_c rfl (lsub_c rfl lsub_n)))
set_option maxRecDepth 20000 in
set_option maxHeartbeats 1000000 in
theorem b_X6_plan_30 {K : Kt}   (hO : Ok K cX6_plan RX6 4 rm_X6_plan) (hR : Rt K (some .int))   (x1 : Int32) (x2 : Int32) (s1 : Int32) (σ : Wd)  : Cm K 4 (0, 0) (f_X6_plan_30  x1 x2 s1 σ) σ 30 [(0, .ref (K.G.A 0)), (1, .int x1), (2, .int x2)] [.int s1, .ref (K.G.A 0)] := by
  refine r_iconst hO ci_0 dX6_plan_30 ?_
  exact r_jmp (b_X6_plan_31 hO hR x1 x2 s1 (0 : Int32) σ) (lsub_c rfl (lsub_c rfl (lsub_c rfl lsub_n)))
set_option maxRecDepth 20000 in
set_option maxHeartbeats 1000000 in
theorem b_X6_plan {K : Kt}  (hO : Ok K cX6_plan RX6 4 rm_X6_plan) (hR : Rt K (some .int))  (a1 : Int32) (a2 : Int32) (σ : Wd) : Cm K 4 (0, 0) (f_X6_plan a1 a2 σ) σ 0 [(0, .ref (K.G.A 0)), (1, .int a1), (2, .int a2)] [] := by
  refine r_aload_n (i := 0) hO rfl rfl dX6_plan_0 ?_
  refine r_aload_n (i := 0) hO rfl rfl dX6_plan_1 ?_
  refine r_iload_n (i := 1) hO rfl rfl dX6_plan_2 ?_
  refine k_X6_isVenue hO a_324 rfl ⟨rfl, rfl, Nat.le_refl _, Nat.le_refl _⟩ dX6_plan_3 ?_
  intro r1 σ2
  refine r_aload_n (i := 0) hO rfl rfl dX6_plan_6 ?_
  refine r_iload_n (i := 1) hO rfl rfl dX6_plan_7 ?_
  refine k_X6_isVenue hO a_324 rfl ⟨rfl, rfl, Nat.le_refl _, Nat.le_refl _⟩ dX6_plan_8 ?_
  intro r3 σ4
  refine r_if_eq (tgt := 30) hO dX6_plan_11 (by decide) ?_ ?_
  · exact r_jmp (b_X6_plan_30 hO hR a1 a2 r1 σ4) (lsub_c rfl (lsub_c rfl (lsub_c rfl lsub_n)))
  · refine r_aload_n (i := 0) hO rfl rfl dX6_plan_14 ?_
    refine r_gd fun h5 => ?_
    refine gX6_39 hO dX6_plan_15 ?_
    refine r_iload_n (i := 1) hO rfl rfl dX6_plan_18 ?_
    refine r_iload_n (i := 2) hO rfl rfl dX6_plan_19 ?_
    refine k_X3_canBePlanned hO (bM_is h5) a_387 rfl ⟨rfl, rfl, Nat.le_refl _, Nat.le_refl _⟩ dX6_plan_20 ?_
    intro r6 σ7
    refine r_if_eq (tgt := 30) hO dX6_plan_23 (by decide) ?_ ?_
    · exact r_jmp (b_X6_plan_30 hO hR a1 a2 r1 σ7) (lsub_c rfl (lsub_c rfl (lsub_c rfl lsub_n)))
    · refine r_iconst hO ci_1 dX6_plan_26 ?_
      refine r_goto (tgt := 31) hO dX6_plan_27 (by decide) ?_
      exact r_jmp (b_X6_plan_31 hO hR a1 a2 r1 (1 : Int32) σ7) (lsub_c rfl (lsub_c rfl (lsub_c rfl lsub_n)))
theorem c_X6_plan {l : Launch} {G : Gh}   (a1 : Int32) (a2 : Int32) (σ : Wd) : Con l G yX6_plan cX6_plan 4 (some .int) 4 90 [.ref (G.A 0), .int a1, .int a2] σ (f_X6_plan a1 a2 σ) := Con.of (plainFor_of_name (by decide)) rfl (Nat.le_of_ble_eq_true rfl) (fun K hl hG hO hR => by subst hl; subst hG; exact b_X6_plan hO hR  a1 a2 σ)
theorem cal_X6_plan : CalV yX6_plan cX6_plan 4 (some .int) 2 := ⟨a_388, a_389, a_390, a_2, by decide, by decide, by decide +kernel⟩
theorem k_X6_plan {K : Kt} {nL : Nat} {cs : Nat × Nat} {σ : Wd} {pc : Nat} {lv : List (Nat × Value)} {st : List Value} {cc : ByteArray} {own : String} {rm : Room} {index : Nat} {g : Int32 → Wd → Option (Int32 × Wd)} {a1 : Int32} {a2 : Int32} (hO : Ok K cc own nL rm)  (hl : Cond.methodLink own index yX6_plan ∈ gtb) (hcat : Nat.ble ((st.map fun v => v.category).sum) 8 = true) (hR : RoomOk rm cs 4 90 4) (d : decode cc pc = .ok (.invokevirtual index, 3)) (kk : ∀ (r : Int32) (σ : Wd), Cm K nL cs (g r σ) σ (pc + 3) lv (.int r :: st)) : Cm K nL cs (bd (f_X6_plan a1 a2 σ) g) σ pc lv (.int a2 :: .int a1 :: .ref (K.G.A 0) :: st) := r_cVi hO (c_X6_plan  a1 a2 σ) cal_X6_plan hl rfl (by decide) ent_X6 rfl rfl hcat hR d kk
/-! OrderSplit.planned -/
def f_X6_planned (a1 : Int32) (σ : Wd) : Option (Int32 × Wd) := bd (f_X6_within a1 (0 : Int32) (2 : Int32) σ) fun r1 σ2 => gd (bM (σ2.2.2 0 4)) (bd (f_X3_planStands (σ2.2.2 0 4) σ2) fun r4 σ5 => bd (f_X6_granted r1 (1 : Int32) r4 σ5) fun r6 σ7 => if r6 = 0 then (some ((-2147483648 : Int32), σ7)) else (if a1 = 0 then (gd (bM (σ7.2.2 0 4)) (bd (f_X3_planUnits (σ7.2.2 0 4) σ7) fun r9 σ10 => some (r9, σ10))) else (if a1 = (1 : Int32) then (gd (bM (σ7.2.2 0 4)) (bd (f_X3_planCost (σ7.2.2 0 4) σ7) fun r12 σ13 => some (r12, σ13))) else (gd (bM (σ7.2.2 0 4)) (gd (bM (σ7.2.2 0 4)) (bd (f_X3_planUnits (σ7.2.2 0 4) σ7) fun r16 σ17 => bd (f_X1_choose (σ7.2.2 0 4) r16 (-1 : Int32) σ17) fun _ σ18 => gd (bM (σ18.2.2 0 4)) (bd (f_X3_planCost (σ18.2.2 0 4) σ18) fun r20 σ21 => some (r20 - (σ21.1 4 1), σ21))))))))
set_option maxRecDepth 20000 in
set_option maxHeartbeats 1000000 in
theorem b_X6_planned {K : Kt}  (hO : Ok K cX6_planned RX6 2 rm_X6_planned) (hR : Rt K (some .int))  (a1 : Int32) (σ : Wd) : Cm K 2 (0, 0) (f_X6_planned a1 σ) σ 0 [(0, .ref (K.G.A 0)), (1, .int a1)] [] := by
  refine r_aload_n (i := 0) hO rfl rfl dX6_planned_0 ?_
  refine r_iload_n (i := 1) hO rfl rfl dX6_planned_1 ?_
  refine r_iconst hO ci_0 dX6_planned_2 ?_
  refine r_iconst hO ci_2 dX6_planned_3 ?_
  refine k_X6_within hO a_316 rfl ⟨rfl, rfl, Nat.le_refl _, Nat.le_refl _⟩ dX6_planned_4 ?_
  intro r1 σ2
  refine r_iconst hO ci_1 dX6_planned_7 ?_
  refine r_aload_n (i := 0) hO rfl rfl dX6_planned_8 ?_
  refine r_gd fun h3 => ?_
  refine gX6_39 hO dX6_planned_9 ?_
  refine k_X3_planStands hO (bM_is h3) a_391 rfl ⟨rfl, rfl, Nat.le_refl _, Nat.le_refl _⟩ dX6_planned_12 ?_
  intro r4 σ5
  refine k_X6_granted hO a_317 rfl ⟨rfl, rfl, Nat.le_refl _, Nat.le_refl _⟩ dX6_planned_15 ?_
  intro r6 σ7
  refine r_if_ne (tgt := 24) hO dX6_planned_18 (by decide) ?_ ?_
  · refine r_ldc hO a_325 dX6_planned_21 ?_
    exact r_iret hO hR dX6_planned_23
  · refine r_iload_n (i := 1) hO rfl rfl dX6_planned_24 ?_
    refine r_if_ne (tgt := 36) hO dX6_planned_25 (by decide) ?_ ?_
    · refine r_aload_n (i := 0) hO rfl rfl dX6_planned_28 ?_
      refine r_gd fun h8 => ?_
      refine gX6_39 hO dX6_planned_29 ?_
      refine k_X3_planUnits hO (bM_is h8) a_392 rfl ⟨rfl, rfl, Nat.le_refl _, Nat.le_refl _⟩ dX6_planned_32 ?_
      intro r9 σ10
      exact r_iret hO hR dX6_planned_35
    · refine r_iload_n (i := 1) hO rfl rfl dX6_planned_36 ?_
      refine r_iconst hO ci_1 dX6_planned_37 ?_
      refine r_icmp_ne (tgt := 49) hO dX6_planned_38 (by decide) ?_ ?_
      · refine r_aload_n (i := 0) hO rfl rfl dX6_planned_41 ?_
        refine r_gd fun h11 => ?_
        refine gX6_39 hO dX6_planned_42 ?_
        refine k_X3_planCost hO (bM_is h11) a_393 rfl ⟨rfl, rfl, Nat.le_refl _, Nat.le_refl _⟩ dX6_planned_45 ?_
        intro r12 σ13
        exact r_iret hO hR dX6_planned_48
      · refine r_aload_n (i := 0) hO rfl rfl dX6_planned_49 ?_
        refine gX6_21 hO dX6_planned_50 ?_
        refine r_aload_n (i := 0) hO rfl rfl dX6_planned_53 ?_
        refine r_gd fun h14 => ?_
        refine gX6_39 hO dX6_planned_54 ?_
        refine r_aload_n (i := 0) hO rfl rfl dX6_planned_57 ?_
        refine r_gd fun h15 => ?_
        refine gX6_39 hO dX6_planned_58 ?_
        refine k_X3_planUnits hO (bM_is h15) a_392 rfl ⟨rfl, rfl, Nat.le_refl _, Nat.le_refl _⟩ dX6_planned_61 ?_
        intro r16 σ17
        refine r_iconst hO ci_m1 dX6_planned_64 ?_
        refine k_X1_choose hO (bM_is h14) a_355 rfl ⟨rfl, rfl, Nat.le_refl _, Nat.le_refl _⟩ dX6_planned_65 ?_
        intro _ σ18
        refine r_aload_n (i := 0) hO rfl rfl dX6_planned_68 ?_
        refine r_gd fun h19 => ?_
        refine gX6_39 hO dX6_planned_69 ?_
        refine k_X3_planCost hO (bM_is h19) a_393 rfl ⟨rfl, rfl, Nat.le_refl _, Nat.le_refl _⟩ dX6_planned_72 ?_
        intro r20 σ21
        refine r_aload_n (i := 0) hO rfl rfl dX6_planned_75 ?_
        refine gX6_21 hO dX6_planned_76 ?_
        refine gX6_183 hO dX6_planned_79 ?_
        refine r_isub hO dX6_planned_82 ?_
        exact r_iret hO hR dX6_planned_83
theorem c_X6_planned {l : Launch} {G : Gh}   (a1 : Int32) (σ : Wd) : Con l G yX6_planned cX6_planned 2 (some .int) 4 103 [.ref (G.A 0), .int a1] σ (f_X6_planned a1 σ) := Con.of (plainFor_of_name (by decide)) rfl (Nat.le_of_ble_eq_true rfl) (fun K hl hG hO hR => by subst hl; subst hG; exact b_X6_planned hO hR  a1 σ)
theorem cal_X6_planned : CalV yX6_planned cX6_planned 2 (some .int) 1 := ⟨a_394, a_395, a_396, a_2, by decide, by decide, by decide +kernel⟩
theorem k_X6_planned {K : Kt} {nL : Nat} {cs : Nat × Nat} {σ : Wd} {pc : Nat} {lv : List (Nat × Value)} {st : List Value} {cc : ByteArray} {own : String} {rm : Room} {index : Nat} {g : Int32 → Wd → Option (Int32 × Wd)} {a1 : Int32} (hO : Ok K cc own nL rm)  (hl : Cond.methodLink own index yX6_planned ∈ gtb) (hcat : Nat.ble ((st.map fun v => v.category).sum) 8 = true) (hR : RoomOk rm cs 4 103 2) (d : decode cc pc = .ok (.invokevirtual index, 3)) (kk : ∀ (r : Int32) (σ : Wd), Cm K nL cs (g r σ) σ (pc + 3) lv (.int r :: st)) : Cm K nL cs (bd (f_X6_planned a1 σ) g) σ pc lv (.int a1 :: .ref (K.G.A 0) :: st) := r_cVi hO (c_X6_planned  a1 σ) cal_X6_planned hl rfl (by decide) ent_X6 rfl rfl hcat hR d kk
/-! OrderSplit.move -/
def f_X6_move_80  (k25 : Int32 → Int32 → Int32 → Wd → Option (Int32 × Wd)) (k39 : Int32 → Int32 → Int32 → Int32 → Wd → Option (Int32 × Wd)) (x1 : Int32) (x2 : Int32) (x3 : Int32) (x4 : Int32) (σ : Wd) : Option (Int32 × Wd) := (k39 x1 x2 x3 (x4 + (1 : Int32)) σ)
def f_X6_move_39  (k25 : Int32 → Int32 → Int32 → Wd → Option (Int32 × Wd)) : Nat → Int32 → Int32 → Int32 → Int32 → Wd → Option (Int32 × Wd)
  | 0 => fun _ _ _ _ _ => none
  | n + 1 => fun x1 x2 x3 x4 σ => gd (bM (σ.2.2 0 4)) (if (σ.1 (σ.2.2 0 4) 3) ≤ x4 then (k25 x1 x2 (x3 + (1 : Int32)) σ) else (gd (bM (σ.2.2 0 4)) (bd (f_X3_moveCost (σ.2.2 0 4) x3 x4 σ) fun r3 σ4 => if x2 ≤ r3 then (f_X6_move_80 k25 (f_X6_move_39 k25 n) x1 x2 x3 x4 σ4) else (f_X6_move_80 k25 (f_X6_move_39 k25 n) (((10 : Int32) * x3) + x4) r3 x3 x4 σ4))))
def f_X6_move_25   : Nat → Int32 → Int32 → Int32 → Wd → Option (Int32 × Wd)
  | 0 => fun _ _ _ _ => none
  | n + 1 => fun x1 x2 x3 σ => gd (bM (σ.2.2 0 4)) (if (σ.1 (σ.2.2 0 4) 3) ≤ x3 then (some (x1, σ)) else (f_X6_move_39 (f_X6_move_25 n) FU x1 x2 x3 (0 : Int32) σ))
def f_X6_move  (σ : Wd) : Option (Int32 × Wd) := gd (bM (σ.2.2 0 4)) (bd (f_X3_planStands (σ.2.2 0 4) σ) fun r2 σ3 => bd (f_X6_granted (1 : Int32) (1 : Int32) r2 σ3) fun r4 σ5 => if r4 = 0 then (some ((-1 : Int32), σ5)) else (f_X6_move_25 FU (-2 : Int32) (0 : Int32) (0 : Int32) σ5))
set_option maxRecDepth 20000 in
set_option maxHeartbeats 1000000 in
theorem b_X6_move_80 {K : Kt}  {k25 : Int32 → Int32 → Int32 → Wd → Option (Int32 × Wd)} {k39 : Int32 → Int32 → Int32 → Int32 → Wd → Option (Int32 × Wd)} (hO : Ok K cX6_move RX6 6 rm_X6_move) (hR : Rt K (some .int))   (hk25 : ∀ (x1 : Int32) (x2 : Int32) (x3 : Int32) (σ : Wd), Cm K 6 (0, 0) (k25 x1 x2 x3 σ) σ 25 [(0, .ref (K.G.A 0)), (1, .int x1), (2, .int x2), (3, .int x3)] []) (hk39 : ∀ (x1 : Int32) (x2 : Int32) (x3 : Int32) (x4 : Int32) (σ : Wd), Cm K 6 (0, 0) (k39 x1 x2 x3 x4 σ) σ 39 [(0, .ref (K.G.A 0)), (1, .int x1), (2, .int x2), (3, .int x3), (4, .int x4)] []) (x1 : Int32) (x2 : Int32) (x3 : Int32) (x4 : Int32) (σ : Wd)  : Cm K 6 (0, 0) (f_X6_move_80 k25 k39 x1 x2 x3 x4 σ) σ 80 [(0, .ref (K.G.A 0)), (1, .int x1), (2, .int x2), (3, .int x3), (4, .int x4)] [] := by
  refine r_iinc hO rfl ci_1 rfl rfl dX6_move_80 ?_
  refine r_goto (tgt := 39) hO dX6_move_83 (by decide) ?_
  exact r_jmp (hk39 x1 x2 x3 (x4 + (1 : Int32)) σ) (lsub_c rfl (lsub_c rfl (lsub_c rfl (lsub_c rfl (lsub_c rfl lsub_n)))))
set_option maxRecDepth 20000 in
set_option maxHeartbeats 1000000 in
theorem b_X6_move_39 {K : Kt}  {k25 : Int32 → Int32 → Int32 → Wd → Option (Int32 × Wd)} (hO : Ok K cX6_move RX6 6 rm_X6_move) (hR : Rt K (some .int))   (hk25 : ∀ (x1 : Int32) (x2 : Int32) (x3 : Int32) (σ : Wd), Cm K 6 (0, 0) (k25 x1 x2 x3 σ) σ 25 [(0, .ref (K.G.A 0)), (1, .int x1), (2, .int x2), (3, .int x3)] []) : ∀ (n : Nat) (x1 : Int32) (x2 : Int32) (x3 : Int32) (x4 : Int32) (σ : Wd) , Cm K 6 (0, 0) (f_X6_move_39 k25 n x1 x2 x3 x4 σ) σ 39 [(0, .ref (K.G.A 0)), (1, .int x1), (2, .int x2), (3, .int x3), (4, .int x4)] [] := by
  intro n
  induction n with
  | zero => intro x1 x2 x3 x4 σ ; exact r_none
  | succ n ih =>
    intro x1 x2 x3 x4 σ 
    refine r_iload hO (d := dX6_move_39) rfl ?_
    refine r_aload_n (i := 0) hO rfl rfl dX6_move_41 ?_
    refine r_gd fun h1 => ?_
    refine gX6_39 hO dX6_move_42 ?_
    refine gX6_92 hO (bM_is h1) dX6_move_45 ?_
    refine r_icmp_ge (tgt := 86) hO dX6_move_48 (by decide) ?_ ?_
    · refine r_iinc hO rfl ci_1 rfl rfl dX6_move_86 ?_
      refine r_goto (tgt := 25) hO dX6_move_89 (by decide) ?_
      exact r_jmp (hk25 x1 x2 (x3 + (1 : Int32)) σ) (lsub_c rfl (lsub_c rfl (lsub_c rfl (lsub_c rfl lsub_n))))
    · refine r_aload_n (i := 0) hO rfl rfl dX6_move_51 ?_
      refine r_gd fun h2 => ?_
      refine gX6_39 hO dX6_move_52 ?_
      refine r_iload_n (i := 3) hO rfl rfl dX6_move_55 ?_
      refine r_iload hO (d := dX6_move_56) rfl ?_
      refine k_X3_moveCost hO (bM_is h2) a_397 rfl ⟨rfl, rfl, Nat.le_refl _, Nat.le_refl _⟩ dX6_move_58 ?_
      intro r3 σ4
      refine r_istore hO rfl rfl dX6_move_61 ?_
      refine r_iload hO (d := dX6_move_63) rfl ?_
      refine r_iload_n (i := 2) hO rfl rfl dX6_move_65 ?_
      refine r_icmp_ge (tgt := 80) hO dX6_move_66 (by decide) ?_ ?_
      · exact r_jmp (b_X6_move_80 hO hR hk25 ih x1 x2 x3 x4 σ4) (lsub_c rfl (lsub_c rfl (lsub_c rfl (lsub_c rfl (lsub_c rfl lsub_n)))))
      · refine r_iload hO (d := dX6_move_69) rfl ?_
        refine r_istore_n (i := 2) hO rfl rfl rfl dX6_move_71 ?_
        refine r_bipush hO bi_10 dX6_move_72 ?_
        refine r_iload_n (i := 3) hO rfl rfl dX6_move_74 ?_
        refine r_imul hO dX6_move_75 ?_
        refine r_iload hO (d := dX6_move_76) rfl ?_
        refine r_iadd hO dX6_move_78 ?_
        refine r_istore_n (i := 1) hO rfl rfl rfl dX6_move_79 ?_
        exact r_jmp (b_X6_move_80 hO hR hk25 ih (((10 : Int32) * x3) + x4) r3 x3 x4 σ4) (lsub_c rfl (lsub_c rfl (lsub_c rfl (lsub_c rfl (lsub_c rfl lsub_n)))))
set_option maxRecDepth 20000 in
set_option maxHeartbeats 1000000 in
theorem b_X6_move_25 {K : Kt}   (hO : Ok K cX6_move RX6 6 rm_X6_move) (hR : Rt K (some .int))   : ∀ (n : Nat) (x1 : Int32) (x2 : Int32) (x3 : Int32) (σ : Wd) , Cm K 6 (0, 0) (f_X6_move_25  n x1 x2 x3 σ) σ 25 [(0, .ref (K.G.A 0)), (1, .int x1), (2, .int x2), (3, .int x3)] [] := by
  intro n
  induction n with
  | zero => intro x1 x2 x3 σ ; exact r_none
  | succ n ih =>
    intro x1 x2 x3 σ 
    refine r_iload_n (i := 3) hO rfl rfl dX6_move_25 ?_
    refine r_aload_n (i := 0) hO rfl rfl dX6_move_26 ?_
    refine r_gd fun h1 => ?_
    refine gX6_39 hO dX6_move_27 ?_
    refine gX6_92 hO (bM_is h1) dX6_move_30 ?_
    refine r_icmp_ge (tgt := 92) hO dX6_move_33 (by decide) ?_ ?_
    · refine r_iload_n (i := 1) hO rfl rfl dX6_move_92 ?_
      exact r_iret hO hR dX6_move_93
    · refine r_iconst hO ci_0 dX6_move_36 ?_
      refine r_istore hO rfl rfl dX6_move_37 ?_
      exact r_jmp (b_X6_move_39 hO hR ih FU x1 x2 x3 (0 : Int32) σ) (lsub_c rfl (lsub_c rfl (lsub_c rfl (lsub_c rfl (lsub_c rfl lsub_n)))))
set_option maxRecDepth 20000 in
set_option maxHeartbeats 1000000 in
theorem b_X6_move {K : Kt}  (hO : Ok K cX6_move RX6 6 rm_X6_move) (hR : Rt K (some .int))   (σ : Wd) : Cm K 6 (0, 0) (f_X6_move  σ) σ 0 [(0, .ref (K.G.A 0))] [] := by
  refine r_aload_n (i := 0) hO rfl rfl dX6_move_0 ?_
  refine r_iconst hO ci_1 dX6_move_1 ?_
  refine r_iconst hO ci_1 dX6_move_2 ?_
  refine r_aload_n (i := 0) hO rfl rfl dX6_move_3 ?_
  refine r_gd fun h1 => ?_
  refine gX6_39 hO dX6_move_4 ?_
  refine k_X3_planStands hO (bM_is h1) a_391 rfl ⟨rfl, rfl, Nat.le_refl _, Nat.le_refl _⟩ dX6_move_7 ?_
  intro r2 σ3
  refine k_X6_granted hO a_317 rfl ⟨rfl, rfl, Nat.le_refl _, Nat.le_refl _⟩ dX6_move_10 ?_
  intro r4 σ5
  refine r_if_ne (tgt := 18) hO dX6_move_13 (by decide) ?_ ?_
  · refine r_iconst hO ci_m1 dX6_move_16 ?_
    exact r_iret hO hR dX6_move_17
  · refine r_bipush hO bi_m2 dX6_move_18 ?_
    refine r_istore_n (i := 1) hO rfl rfl rfl dX6_move_20 ?_
    refine r_iconst hO ci_0 dX6_move_21 ?_
    refine r_istore_n (i := 2) hO rfl rfl rfl dX6_move_22 ?_
    refine r_iconst hO ci_0 dX6_move_23 ?_
    refine r_istore_n (i := 3) hO rfl rfl rfl dX6_move_24 ?_
    exact r_jmp (b_X6_move_25 hO hR FU (-2 : Int32) (0 : Int32) (0 : Int32) σ5) (lsub_c rfl (lsub_c rfl (lsub_c rfl (lsub_c rfl lsub_n))))
theorem c_X6_move {l : Launch} {G : Gh}    (σ : Wd) : Con l G yX6_move cX6_move 6 (some .int) 3 73 [.ref (G.A 0)] σ (f_X6_move  σ) := Con.of (plainFor_of_name (by decide)) rfl (Nat.le_of_ble_eq_true rfl) (fun K hl hG hO hR => by subst hl; subst hG; exact b_X6_move hO hR   σ)
theorem cal_X6_move : CalV yX6_move cX6_move 6 (some .int) 0 := ⟨a_398, a_399, a_400, a_2, by decide, by decide, by decide +kernel⟩
theorem k_X6_move {K : Kt} {nL : Nat} {cs : Nat × Nat} {σ : Wd} {pc : Nat} {lv : List (Nat × Value)} {st : List Value} {cc : ByteArray} {own : String} {rm : Room} {index : Nat} {g : Int32 → Wd → Option (Int32 × Wd)}  (hO : Ok K cc own nL rm)  (hl : Cond.methodLink own index yX6_move ∈ gtb) (hcat : Nat.ble ((st.map fun v => v.category).sum) 8 = true) (hR : RoomOk rm cs 3 73 6) (d : decode cc pc = .ok (.invokevirtual index, 3)) (kk : ∀ (r : Int32) (σ : Wd), Cm K nL cs (g r σ) σ (pc + 3) lv (.int r :: st)) : Cm K nL cs (bd (f_X6_move  σ) g) σ pc lv (.ref (K.G.A 0) :: st) := r_cVi hO (c_X6_move   σ) cal_X6_move hl rfl (by decide) ent_X6 rfl rfl hcat hR d kk
/-! OrderSplit.now -/
def f_X6_now (a1 : Int32) (σ : Wd) : Option (Int32 × Wd) := bd (f_X6_within a1 (0 : Int32) (7 : Int32) σ) fun r1 σ2 => bd (f_X6_granted r1 (1 : Int32) (σ2.1 63 0) σ2) fun r3 σ4 => if r3 = 0 then (some ((-2147483648 : Int32), σ4)) else (gd (bM (σ4.2.2 0 4)) (bd (f_X4_tell 63 (σ4.2.2 0 4) a1 σ4) fun r6 σ7 => some (r6, σ7)))
set_option maxRecDepth 20000 in
set_option maxHeartbeats 1000000 in
theorem b_X6_now {K : Kt}  (hO : Ok K cX6_now RX6 2 rm_X6_now) (hR : Rt K (some .int))  (a1 : Int32) (σ : Wd) : Cm K 2 (0, 0) (f_X6_now a1 σ) σ 0 [(0, .ref (K.G.A 0)), (1, .int a1)] [] := by
  refine r_aload_n (i := 0) hO rfl rfl dX6_now_0 ?_
  refine r_iload_n (i := 1) hO rfl rfl dX6_now_1 ?_
  refine r_iconst hO ci_0 dX6_now_2 ?_
  refine r_bipush hO bi_7 dX6_now_3 ?_
  refine k_X6_within hO a_316 rfl ⟨rfl, rfl, Nat.le_refl _, Nat.le_refl _⟩ dX6_now_5 ?_
  intro r1 σ2
  refine r_iconst hO ci_1 dX6_now_8 ?_
  refine r_aload_n (i := 0) hO rfl rfl dX6_now_9 ?_
  refine gX6_51 hO dX6_now_10 ?_
  refine gX6_213 hO iR63 dX6_now_13 ?_
  refine k_X6_granted hO a_317 rfl ⟨rfl, rfl, Nat.le_refl _, Nat.le_refl _⟩ dX6_now_16 ?_
  intro r3 σ4
  refine r_if_ne (tgt := 25) hO dX6_now_19 (by decide) ?_ ?_
  · refine r_ldc hO a_325 dX6_now_22 ?_
    exact r_iret hO hR dX6_now_24
  · refine r_aload_n (i := 0) hO rfl rfl dX6_now_25 ?_
    refine gX6_51 hO dX6_now_26 ?_
    refine r_aload_n (i := 0) hO rfl rfl dX6_now_29 ?_
    refine r_gd fun h5 => ?_
    refine gX6_39 hO dX6_now_30 ?_
    refine r_iload_n (i := 1) hO rfl rfl dX6_now_33 ?_
    refine k_X4_tell hO iR63 (bM_is h5) a_401 rfl ⟨rfl, rfl, Nat.le_refl _, Nat.le_refl _⟩ dX6_now_34 ?_
    intro r6 σ7
    exact r_iret hO hR dX6_now_37
theorem c_X6_now {l : Launch} {G : Gh}   (a1 : Int32) (σ : Wd) : Con l G yX6_now cX6_now 2 (some .int) 5 114 [.ref (G.A 0), .int a1] σ (f_X6_now a1 σ) := Con.of (plainFor_of_name (by decide)) rfl (Nat.le_of_ble_eq_true rfl) (fun K hl hG hO hR => by subst hl; subst hG; exact b_X6_now hO hR  a1 σ)
theorem cal_X6_now : CalV yX6_now cX6_now 2 (some .int) 1 := ⟨a_402, a_403, a_404, a_2, by decide, by decide, by decide +kernel⟩
theorem k_X6_now {K : Kt} {nL : Nat} {cs : Nat × Nat} {σ : Wd} {pc : Nat} {lv : List (Nat × Value)} {st : List Value} {cc : ByteArray} {own : String} {rm : Room} {index : Nat} {g : Int32 → Wd → Option (Int32 × Wd)} {a1 : Int32} (hO : Ok K cc own nL rm)  (hl : Cond.methodLink own index yX6_now ∈ gtb) (hcat : Nat.ble ((st.map fun v => v.category).sum) 8 = true) (hR : RoomOk rm cs 5 114 2) (d : decode cc pc = .ok (.invokevirtual index, 3)) (kk : ∀ (r : Int32) (σ : Wd), Cm K nL cs (g r σ) σ (pc + 3) lv (.int r :: st)) : Cm K nL cs (bd (f_X6_now a1 σ) g) σ pc lv (.int a1 :: .ref (K.G.A 0) :: st) := r_cVi hO (c_X6_now  a1 σ) cal_X6_now hl rfl (by decide) ent_X6 rfl rfl hcat hR d kk
/-! OrderSplit.part -/
def f_X6_part_24   (x1 : Int32) (x2 : Int32) (s1 : Int32) (σ : Wd) : Option (Int32 × Wd) := bd (f_X6_granted s1 (1 : Int32) (σ.1 63 0) σ) fun r1 σ2 => if r1 = 0 then (some ((-2147483648 : Int32), σ2)) else (bd (f_X4_tellPart 63 x1 x2 σ2) fun r3 σ4 => some (r3, σ4))
def f_X6_part_23   (x1 : Int32) (x2 : Int32) (σ : Wd) : Option (Int32 × Wd) := (f_X6_part_24 x1 x2 (0 : Int32) σ)
def f_X6_part (a1 : Int32) (a2 : Int32) (σ : Wd) : Option (Int32 × Wd) := bd (f_X6_isVenue a1 σ) fun r1 σ2 => if r1 = 0 then (f_X6_part_23 a1 a2 σ2) else (bd (f_X6_within a2 (0 : Int32) (6 : Int32) σ2) fun r3 σ4 => if r3 = 0 then (f_X6_part_23 a1 a2 σ4) else (f_X6_part_24 a1 a2 (1 : Int32) σ4))
set_option maxRecDepth 20000 in
set_option maxHeartbeats 1000000 in
theorem b_X6_part_24 {K : Kt}   (hO : Ok K cX6_part RX6 3 rm_X6_part) (hR : Rt K (some .int))   (x1 : Int32) (x2 : Int32) (s1 : Int32) (σ : Wd)  : Cm K 3 (0, 0) (f_X6_part_24  x1 x2 s1 σ) σ 24 [(0, .ref (K.G.A 0)), (1, .int x1), (2, .int x2)] [.int s1, .ref (K.G.A 0)] := by
  refine r_iconst hO ci_1 dX6_part_24 ?_
  refine r_aload_n (i := 0) hO rfl rfl dX6_part_25 ?_
  refine gX6_51 hO dX6_part_26 ?_
  refine gX6_213 hO iR63 dX6_part_29 ?_
  refine k_X6_granted hO a_317 rfl ⟨rfl, rfl, Nat.le_refl _, Nat.le_refl _⟩ dX6_part_32 ?_
  intro r1 σ2
  refine r_if_ne (tgt := 41) hO dX6_part_35 (by decide) ?_ ?_
  · refine r_ldc hO a_325 dX6_part_38 ?_
    exact r_iret hO hR dX6_part_40
  · refine r_aload_n (i := 0) hO rfl rfl dX6_part_41 ?_
    refine gX6_51 hO dX6_part_42 ?_
    refine r_iload_n (i := 1) hO rfl rfl dX6_part_45 ?_
    refine r_iload_n (i := 2) hO rfl rfl dX6_part_46 ?_
    refine k_X4_tellPart hO iR63 a_405 rfl ⟨rfl, rfl, Nat.le_refl _, Nat.le_refl _⟩ dX6_part_47 ?_
    intro r3 σ4
    exact r_iret hO hR dX6_part_50
set_option maxRecDepth 20000 in
set_option maxHeartbeats 1000000 in
theorem b_X6_part_23 {K : Kt}   (hO : Ok K cX6_part RX6 3 rm_X6_part) (hR : Rt K (some .int))   (x1 : Int32) (x2 : Int32) (σ : Wd)  : Cm K 3 (0, 0) (f_X6_part_23  x1 x2 σ) σ 23 [(0, .ref (K.G.A 0)), (1, .int x1), (2, .int x2)] [.ref (K.G.A 0)] := by
  refine r_iconst hO ci_0 dX6_part_23 ?_
  exact r_jmp (b_X6_part_24 hO hR x1 x2 (0 : Int32) σ) (lsub_c rfl (lsub_c rfl (lsub_c rfl lsub_n)))
set_option maxRecDepth 20000 in
set_option maxHeartbeats 1000000 in
theorem b_X6_part {K : Kt}  (hO : Ok K cX6_part RX6 3 rm_X6_part) (hR : Rt K (some .int))  (a1 : Int32) (a2 : Int32) (σ : Wd) : Cm K 3 (0, 0) (f_X6_part a1 a2 σ) σ 0 [(0, .ref (K.G.A 0)), (1, .int a1), (2, .int a2)] [] := by
  refine r_aload_n (i := 0) hO rfl rfl dX6_part_0 ?_
  refine r_aload_n (i := 0) hO rfl rfl dX6_part_1 ?_
  refine r_iload_n (i := 1) hO rfl rfl dX6_part_2 ?_
  refine k_X6_isVenue hO a_324 rfl ⟨rfl, rfl, Nat.le_refl _, Nat.le_refl _⟩ dX6_part_3 ?_
  intro r1 σ2
  refine r_if_eq (tgt := 23) hO dX6_part_6 (by decide) ?_ ?_
  · exact r_jmp (b_X6_part_23 hO hR a1 a2 σ2) (lsub_c rfl (lsub_c rfl (lsub_c rfl lsub_n)))
  · refine r_iload_n (i := 2) hO rfl rfl dX6_part_9 ?_
    refine r_iconst hO ci_0 dX6_part_10 ?_
    refine r_bipush hO bi_6 dX6_part_11 ?_
    refine k_X6_within hO a_316 rfl ⟨rfl, rfl, Nat.le_refl _, Nat.le_refl _⟩ dX6_part_13 ?_
    intro r3 σ4
    refine r_if_eq (tgt := 23) hO dX6_part_16 (by decide) ?_ ?_
    · exact r_jmp (b_X6_part_23 hO hR a1 a2 σ4) (lsub_c rfl (lsub_c rfl (lsub_c rfl lsub_n)))
    · refine r_iconst hO ci_1 dX6_part_19 ?_
      refine r_goto (tgt := 24) hO dX6_part_20 (by decide) ?_
      exact r_jmp (b_X6_part_24 hO hR a1 a2 (1 : Int32) σ4) (lsub_c rfl (lsub_c rfl (lsub_c rfl lsub_n)))
theorem c_X6_part {l : Launch} {G : Gh}   (a1 : Int32) (a2 : Int32) (σ : Wd) : Con l G yX6_part cX6_part 3 (some .int) 1 23 [.ref (G.A 0), .int a1, .int a2] σ (f_X6_part a1 a2 σ) := Con.of (plainFor_of_name (by decide)) rfl (Nat.le_of_ble_eq_true rfl) (fun K hl hG hO hR => by subst hl; subst hG; exact b_X6_part hO hR  a1 a2 σ)
theorem cal_X6_part : CalV yX6_part cX6_part 3 (some .int) 2 := ⟨a_406, a_407, a_408, a_2, by decide, by decide, by decide +kernel⟩
theorem k_X6_part {K : Kt} {nL : Nat} {cs : Nat × Nat} {σ : Wd} {pc : Nat} {lv : List (Nat × Value)} {st : List Value} {cc : ByteArray} {own : String} {rm : Room} {index : Nat} {g : Int32 → Wd → Option (Int32 × Wd)} {a1 : Int32} {a2 : Int32} (hO : Ok K cc own nL rm)  (hl : Cond.methodLink own index yX6_part ∈ gtb) (hcat : Nat.ble ((st.map fun v => v.category).sum) 8 = true) (hR : RoomOk rm cs 1 23 3) (d : decode cc pc = .ok (.invokevirtual index, 3)) (kk : ∀ (r : Int32) (σ : Wd), Cm K nL cs (g r σ) σ (pc + 3) lv (.int r :: st)) : Cm K nL cs (bd (f_X6_part a1 a2 σ) g) σ pc lv (.int a2 :: .int a1 :: .ref (K.G.A 0) :: st) := r_cVi hO (c_X6_part  a1 a2 σ) cal_X6_part hl rfl (by decide) ent_X6 rfl rfl hcat hR d kk
/-! OrderSplit.entries -/
def f_X6_entries  (σ : Wd) : Option (Int32 × Wd) := bd (f_X6_granted (1 : Int32) (1 : Int32) (σ.1 63 0) σ) fun r1 σ2 => if r1 = 0 then (some ((-1 : Int32), σ2)) else (some (σ2.1 72 0, σ2))
set_option maxRecDepth 20000 in
set_option maxHeartbeats 1000000 in
theorem b_X6_entries {K : Kt}  (hO : Ok K cX6_entries RX6 1 rm_X6_entries) (hR : Rt K (some .int))   (σ : Wd) : Cm K 1 (0, 0) (f_X6_entries  σ) σ 0 [(0, .ref (K.G.A 0))] [] := by
  refine r_aload_n (i := 0) hO rfl rfl dX6_entries_0 ?_
  refine r_iconst hO ci_1 dX6_entries_1 ?_
  refine r_iconst hO ci_1 dX6_entries_2 ?_
  refine r_aload_n (i := 0) hO rfl rfl dX6_entries_3 ?_
  refine gX6_51 hO dX6_entries_4 ?_
  refine gX6_213 hO iR63 dX6_entries_7 ?_
  refine k_X6_granted hO a_317 rfl ⟨rfl, rfl, Nat.le_refl _, Nat.le_refl _⟩ dX6_entries_10 ?_
  intro r1 σ2
  refine r_if_ne (tgt := 18) hO dX6_entries_13 (by decide) ?_ ?_
  · refine r_iconst hO ci_m1 dX6_entries_16 ?_
    exact r_iret hO hR dX6_entries_17
  · refine r_aload_n (i := 0) hO rfl rfl dX6_entries_18 ?_
    refine gX6_51 hO dX6_entries_19 ?_
    refine gX6_239 hO iR63 dX6_entries_22 ?_
    refine gX6_243 hO (isR_L iR63) dX6_entries_25 ?_
    exact r_iret hO hR dX6_entries_28
theorem c_X6_entries {l : Launch} {G : Gh}    (σ : Wd) : Con l G yX6_entries cX6_entries 1 (some .int) 1 23 [.ref (G.A 0)] σ (f_X6_entries  σ) := Con.of (plainFor_of_name (by decide)) rfl (Nat.le_of_ble_eq_true rfl) (fun K hl hG hO hR => by subst hl; subst hG; exact b_X6_entries hO hR   σ)
theorem cal_X6_entries : CalV yX6_entries cX6_entries 1 (some .int) 0 := ⟨a_409, a_410, a_411, a_2, by decide, by decide, by decide +kernel⟩
theorem k_X6_entries {K : Kt} {nL : Nat} {cs : Nat × Nat} {σ : Wd} {pc : Nat} {lv : List (Nat × Value)} {st : List Value} {cc : ByteArray} {own : String} {rm : Room} {index : Nat} {g : Int32 → Wd → Option (Int32 × Wd)}  (hO : Ok K cc own nL rm)  (hl : Cond.methodLink own index yX6_entries ∈ gtb) (hcat : Nat.ble ((st.map fun v => v.category).sum) 8 = true) (hR : RoomOk rm cs 1 23 1) (d : decode cc pc = .ok (.invokevirtual index, 3)) (kk : ∀ (r : Int32) (σ : Wd), Cm K nL cs (g r σ) σ (pc + 3) lv (.int r :: st)) : Cm K nL cs (bd (f_X6_entries  σ) g) σ pc lv (.ref (K.G.A 0) :: st) := r_cVi hO (c_X6_entries   σ) cal_X6_entries hl rfl (by decide) ent_X6 rfl rfl hcat hR d kk
/-! OrderSplit.entry -/
def f_X6_entry_35   (x1 : Int32) (x2 : Int32) (s1 : Int32) (σ : Wd) : Option (Int32 × Wd) := bd (f_X6_granted s1 (1 : Int32) (σ.1 63 0) σ) fun r1 σ2 => if r1 = 0 then (some ((-1 : Int32), σ2)) else (if x2 = (0 : Int32) then (gd (inb x1 30) (some (σ2.1 73 (ix x1), σ2))) else (if x2 = (1 : Int32) then (gd (inb x1 30) (some (σ2.1 74 (ix x1), σ2))) else (gd (inb x1 30) (some (σ2.1 75 (ix x1), σ2)))))
def f_X6_entry_34   (x1 : Int32) (x2 : Int32) (σ : Wd) : Option (Int32 × Wd) := (f_X6_entry_35 x1 x2 (0 : Int32) σ)
def f_X6_entry (a1 : Int32) (a2 : Int32) (σ : Wd) : Option (Int32 × Wd) := bd (f_X6_within a1 (0 : Int32) ((σ.1 72 0) - (1 : Int32)) σ) fun r1 σ2 => if r1 = 0 then (f_X6_entry_34 a1 a2 σ2) else (bd (f_X6_within a2 (0 : Int32) (2 : Int32) σ2) fun r3 σ4 => if r3 = 0 then (f_X6_entry_34 a1 a2 σ4) else (f_X6_entry_35 a1 a2 (1 : Int32) σ4))
set_option maxRecDepth 20000 in
set_option maxHeartbeats 1000000 in
theorem b_X6_entry_35 {K : Kt}   (hO : Ok K cX6_entry RX6 3 rm_X6_entry) (hR : Rt K (some .int))   (x1 : Int32) (x2 : Int32) (s1 : Int32) (σ : Wd)  : Cm K 3 (0, 0) (f_X6_entry_35  x1 x2 s1 σ) σ 35 [(0, .ref (K.G.A 0)), (1, .int x1), (2, .int x2)] [.int s1, .ref (K.G.A 0)] := by
  refine r_iconst hO ci_1 dX6_entry_35 ?_
  refine r_aload_n (i := 0) hO rfl rfl dX6_entry_36 ?_
  refine gX6_51 hO dX6_entry_37 ?_
  refine gX6_213 hO iR63 dX6_entry_40 ?_
  refine k_X6_granted hO a_317 rfl ⟨rfl, rfl, Nat.le_refl _, Nat.le_refl _⟩ dX6_entry_43 ?_
  intro r1 σ2
  refine r_if_ne (tgt := 51) hO dX6_entry_46 (by decide) ?_ ?_
  · refine r_iconst hO ci_m1 dX6_entry_49 ?_
    exact r_iret hO hR dX6_entry_50
  · refine r_iload_n (i := 2) hO rfl rfl dX6_entry_51 ?_
    refine r_if (fun hc => ?_) (fun hc0 => ?_)
    · refine r_lsw (off := 28) (tgt := 80) hO dX6_entry_52 rfl (by first | (rw [hc]; rfl) | rw [hc]) (by decide) ?_
      refine r_aload_n (i := 0) hO rfl rfl dX6_entry_80 ?_
      refine gX6_51 hO dX6_entry_81 ?_
      refine gX6_239 hO iR63 dX6_entry_84 ?_
      refine gX6_248 hO (isR_L iR63) dX6_entry_87 ?_
      refine r_iload_n (i := 1) hO rfl rfl dX6_entry_90 ?_
      refine r_iald hO (sL_1 (isR_L iR63)) dX6_entry_91 ?_
      exact r_iret hO hR dX6_entry_92
    · refine r_if (fun hc => ?_) (fun hc1 => ?_)
      · refine r_lsw (off := 41) (tgt := 93) hO dX6_entry_52 rfl (by first | (rw [hc]; rfl) | rw [hc]) (by decide) ?_
        refine r_aload_n (i := 0) hO rfl rfl dX6_entry_93 ?_
        refine gX6_51 hO dX6_entry_94 ?_
        refine gX6_239 hO iR63 dX6_entry_97 ?_
        refine gX6_251 hO (isR_L iR63) dX6_entry_100 ?_
        refine r_iload_n (i := 1) hO rfl rfl dX6_entry_103 ?_
        refine r_iald hO (sL_2 (isR_L iR63)) dX6_entry_104 ?_
        exact r_iret hO hR dX6_entry_105
      · refine r_lsw (off := 54) (tgt := 106) hO dX6_entry_52 rfl ((lv_osw (a := 0) hc0 rfl).trans ((lv_osw (a := 1) hc1 rfl).trans (rfl))) (by decide) ?_
        refine r_aload_n (i := 0) hO rfl rfl dX6_entry_106 ?_
        refine gX6_51 hO dX6_entry_107 ?_
        refine gX6_239 hO iR63 dX6_entry_110 ?_
        refine gX6_254 hO (isR_L iR63) dX6_entry_113 ?_
        refine r_iload_n (i := 1) hO rfl rfl dX6_entry_116 ?_
        refine r_iald hO (sL_3 (isR_L iR63)) dX6_entry_117 ?_
        exact r_iret hO hR dX6_entry_118
set_option maxRecDepth 20000 in
set_option maxHeartbeats 1000000 in
theorem b_X6_entry_34 {K : Kt}   (hO : Ok K cX6_entry RX6 3 rm_X6_entry) (hR : Rt K (some .int))   (x1 : Int32) (x2 : Int32) (σ : Wd)  : Cm K 3 (0, 0) (f_X6_entry_34  x1 x2 σ) σ 34 [(0, .ref (K.G.A 0)), (1, .int x1), (2, .int x2)] [.ref (K.G.A 0)] := by
  refine r_iconst hO ci_0 dX6_entry_34 ?_
  exact r_jmp (b_X6_entry_35 hO hR x1 x2 (0 : Int32) σ) (lsub_c rfl (lsub_c rfl (lsub_c rfl lsub_n)))
set_option maxRecDepth 20000 in
set_option maxHeartbeats 1000000 in
theorem b_X6_entry {K : Kt}  (hO : Ok K cX6_entry RX6 3 rm_X6_entry) (hR : Rt K (some .int))  (a1 : Int32) (a2 : Int32) (σ : Wd) : Cm K 3 (0, 0) (f_X6_entry a1 a2 σ) σ 0 [(0, .ref (K.G.A 0)), (1, .int a1), (2, .int a2)] [] := by
  refine r_aload_n (i := 0) hO rfl rfl dX6_entry_0 ?_
  refine r_iload_n (i := 1) hO rfl rfl dX6_entry_1 ?_
  refine r_iconst hO ci_0 dX6_entry_2 ?_
  refine r_aload_n (i := 0) hO rfl rfl dX6_entry_3 ?_
  refine gX6_51 hO dX6_entry_4 ?_
  refine gX6_239 hO iR63 dX6_entry_7 ?_
  refine gX6_243 hO (isR_L iR63) dX6_entry_10 ?_
  refine r_iconst hO ci_1 dX6_entry_13 ?_
  refine r_isub hO dX6_entry_14 ?_
  refine k_X6_within hO a_316 rfl ⟨rfl, rfl, Nat.le_refl _, Nat.le_refl _⟩ dX6_entry_15 ?_
  intro r1 σ2
  refine r_if_eq (tgt := 34) hO dX6_entry_18 (by decide) ?_ ?_
  · exact r_jmp (b_X6_entry_34 hO hR a1 a2 σ2) (lsub_c rfl (lsub_c rfl (lsub_c rfl lsub_n)))
  · refine r_iload_n (i := 2) hO rfl rfl dX6_entry_21 ?_
    refine r_iconst hO ci_0 dX6_entry_22 ?_
    refine r_iconst hO ci_2 dX6_entry_23 ?_
    refine k_X6_within hO a_316 rfl ⟨rfl, rfl, Nat.le_refl _, Nat.le_refl _⟩ dX6_entry_24 ?_
    intro r3 σ4
    refine r_if_eq (tgt := 34) hO dX6_entry_27 (by decide) ?_ ?_
    · exact r_jmp (b_X6_entry_34 hO hR a1 a2 σ4) (lsub_c rfl (lsub_c rfl (lsub_c rfl lsub_n)))
    · refine r_iconst hO ci_1 dX6_entry_30 ?_
      refine r_goto (tgt := 35) hO dX6_entry_31 (by decide) ?_
      exact r_jmp (b_X6_entry_35 hO hR a1 a2 (1 : Int32) σ4) (lsub_c rfl (lsub_c rfl (lsub_c rfl lsub_n)))
theorem c_X6_entry {l : Launch} {G : Gh}   (a1 : Int32) (a2 : Int32) (σ : Wd) : Con l G yX6_entry cX6_entry 3 (some .int) 1 23 [.ref (G.A 0), .int a1, .int a2] σ (f_X6_entry a1 a2 σ) := Con.of (plainFor_of_name (by decide)) rfl (Nat.le_of_ble_eq_true rfl) (fun K hl hG hO hR => by subst hl; subst hG; exact b_X6_entry hO hR  a1 a2 σ)
theorem cal_X6_entry : CalV yX6_entry cX6_entry 3 (some .int) 2 := ⟨a_412, a_413, a_414, a_2, by decide, by decide, by decide +kernel⟩
theorem k_X6_entry {K : Kt} {nL : Nat} {cs : Nat × Nat} {σ : Wd} {pc : Nat} {lv : List (Nat × Value)} {st : List Value} {cc : ByteArray} {own : String} {rm : Room} {index : Nat} {g : Int32 → Wd → Option (Int32 × Wd)} {a1 : Int32} {a2 : Int32} (hO : Ok K cc own nL rm)  (hl : Cond.methodLink own index yX6_entry ∈ gtb) (hcat : Nat.ble ((st.map fun v => v.category).sum) 8 = true) (hR : RoomOk rm cs 1 23 3) (d : decode cc pc = .ok (.invokevirtual index, 3)) (kk : ∀ (r : Int32) (σ : Wd), Cm K nL cs (g r σ) σ (pc + 3) lv (.int r :: st)) : Cm K nL cs (bd (f_X6_entry a1 a2 σ) g) σ pc lv (.int a2 :: .int a1 :: .ref (K.G.A 0) :: st) := r_cVi hO (c_X6_entry  a1 a2 σ) cal_X6_entry hl rfl (by decide) ent_X6 rfl rfl hcat hR d kk
/-! OrderSplit.bought -/
def f_X6_bought (a1 : Int32) (a2 : Int32) (σ : Wd) : Option (Int32 × Wd) := bd (f_X6_isVenue a1 σ) fun r1 σ2 => bd (f_X6_granted r1 (1 : Int32) (σ2.1 63 0) σ2) fun r3 σ4 => if r3 = 0 then (some ((-1 : Int32), σ4)) else (bd (f_X2_unitsAt 72 a1 a2 σ4) fun r5 σ6 => some (r5, σ6))
set_option maxRecDepth 20000 in
set_option maxHeartbeats 1000000 in
theorem b_X6_bought {K : Kt}  (hO : Ok K cX6_bought RX6 3 rm_X6_bought) (hR : Rt K (some .int))  (a1 : Int32) (a2 : Int32) (σ : Wd) : Cm K 3 (0, 0) (f_X6_bought a1 a2 σ) σ 0 [(0, .ref (K.G.A 0)), (1, .int a1), (2, .int a2)] [] := by
  refine r_aload_n (i := 0) hO rfl rfl dX6_bought_0 ?_
  refine r_aload_n (i := 0) hO rfl rfl dX6_bought_1 ?_
  refine r_iload_n (i := 1) hO rfl rfl dX6_bought_2 ?_
  refine k_X6_isVenue hO a_324 rfl ⟨rfl, rfl, Nat.le_refl _, Nat.le_refl _⟩ dX6_bought_3 ?_
  intro r1 σ2
  refine r_iconst hO ci_1 dX6_bought_6 ?_
  refine r_aload_n (i := 0) hO rfl rfl dX6_bought_7 ?_
  refine gX6_51 hO dX6_bought_8 ?_
  refine gX6_213 hO iR63 dX6_bought_11 ?_
  refine k_X6_granted hO a_317 rfl ⟨rfl, rfl, Nat.le_refl _, Nat.le_refl _⟩ dX6_bought_14 ?_
  intro r3 σ4
  refine r_if_ne (tgt := 22) hO dX6_bought_17 (by decide) ?_ ?_
  · refine r_iconst hO ci_m1 dX6_bought_20 ?_
    exact r_iret hO hR dX6_bought_21
  · refine r_aload_n (i := 0) hO rfl rfl dX6_bought_22 ?_
    refine gX6_51 hO dX6_bought_23 ?_
    refine gX6_239 hO iR63 dX6_bought_26 ?_
    refine r_iload_n (i := 1) hO rfl rfl dX6_bought_29 ?_
    refine r_iload_n (i := 2) hO rfl rfl dX6_bought_30 ?_
    refine k_X2_unitsAt hO (isR_L iR63) a_415 rfl ⟨rfl, rfl, Nat.le_refl _, Nat.le_refl _⟩ dX6_bought_31 ?_
    intro r5 σ6
    exact r_iret hO hR dX6_bought_34
theorem c_X6_bought {l : Launch} {G : Gh}   (a1 : Int32) (a2 : Int32) (σ : Wd) : Con l G yX6_bought cX6_bought 3 (some .int) 2 46 [.ref (G.A 0), .int a1, .int a2] σ (f_X6_bought a1 a2 σ) := Con.of (plainFor_of_name (by decide)) rfl (Nat.le_of_ble_eq_true rfl) (fun K hl hG hO hR => by subst hl; subst hG; exact b_X6_bought hO hR  a1 a2 σ)
theorem cal_X6_bought : CalV yX6_bought cX6_bought 3 (some .int) 2 := ⟨a_416, a_417, a_418, a_2, by decide, by decide, by decide +kernel⟩
theorem k_X6_bought {K : Kt} {nL : Nat} {cs : Nat × Nat} {σ : Wd} {pc : Nat} {lv : List (Nat × Value)} {st : List Value} {cc : ByteArray} {own : String} {rm : Room} {index : Nat} {g : Int32 → Wd → Option (Int32 × Wd)} {a1 : Int32} {a2 : Int32} (hO : Ok K cc own nL rm)  (hl : Cond.methodLink own index yX6_bought ∈ gtb) (hcat : Nat.ble ((st.map fun v => v.category).sum) 8 = true) (hR : RoomOk rm cs 2 46 3) (d : decode cc pc = .ok (.invokevirtual index, 3)) (kk : ∀ (r : Int32) (σ : Wd), Cm K nL cs (g r σ) σ (pc + 3) lv (.int r :: st)) : Cm K nL cs (bd (f_X6_bought a1 a2 σ) g) σ pc lv (.int a2 :: .int a1 :: .ref (K.G.A 0) :: st) := r_cVi hO (c_X6_bought  a1 a2 σ) cal_X6_bought hl rfl (by decide) ent_X6 rfl rfl hcat hR d kk
/-! OrderSplit.will -/
def f_X6_will_91   (x1 : Int32) (σ : Wd) : Option (Int32 × Wd) := bd (f_X4_tell 89 50 x1 σ) fun r1 σ2 => some (r1, σ2)
def f_X6_will_49   : Nat → Int32 → Int32 → Wd → Option (Int32 × Wd)
  | 0 => fun _ _ _ => none
  | n + 1 => fun x1 x2 σ => if (400 : Int32) ≤ x2 then (f_X6_will_91 x1 σ) else (bd (f_X4_isOver 89 50 σ) fun r1 σ2 => if r1 = 0 then (bd (f_X4_tick 89 50 σ2) fun _ σ3 => (f_X6_will_49 n x1 (x2 + (1 : Int32)) σ3)) else (f_X6_will_91 x1 σ2))
def f_X6_will (a1 : Int32) (σ : Wd) : Option (Int32 × Wd) := bd (f_X6_within a1 (0 : Int32) (6 : Int32) σ) fun r1 σ2 => bd (f_X6_granted r1 (1 : Int32) (σ2.1 63 0) σ2) fun r3 σ4 => if r3 = 0 then (some ((-2147483648 : Int32), σ4)) else (gd (bM (σ4.2.2 0 4)) (bd (f_X3_copyFrom 50 (σ4.2.2 0 4) σ4) fun _ σ6 => bd (f_X4_copyFrom 89 63 σ6) fun _ σ7 => (f_X6_will_49 FU a1 (0 : Int32) σ7)))
set_option maxRecDepth 20000 in
set_option maxHeartbeats 1000000 in
theorem b_X6_will_91 {K : Kt}   (hO : Ok K cX6_will RX6 3 rm_X6_will) (hR : Rt K (some .int))   (x1 : Int32) (σ : Wd)  : Cm K 3 (0, 0) (f_X6_will_91  x1 σ) σ 91 [(0, .ref (K.G.A 0)), (1, .int x1)] [] := by
  refine r_aload_n (i := 0) hO rfl rfl dX6_will_91 ?_
  refine gX6_58 hO dX6_will_92 ?_
  refine r_aload_n (i := 0) hO rfl rfl dX6_will_95 ?_
  refine gX6_45 hO dX6_will_96 ?_
  refine r_iload_n (i := 1) hO rfl rfl dX6_will_99 ?_
  refine k_X4_tell hO iR89 iM50 a_401 rfl ⟨rfl, rfl, Nat.le_refl _, Nat.le_refl _⟩ dX6_will_100 ?_
  intro r1 σ2
  exact r_iret hO hR dX6_will_103
set_option maxRecDepth 20000 in
set_option maxHeartbeats 1000000 in
theorem b_X6_will_49 {K : Kt}   (hO : Ok K cX6_will RX6 3 rm_X6_will) (hR : Rt K (some .int))   : ∀ (n : Nat) (x1 : Int32) (x2 : Int32) (σ : Wd) , Cm K 3 (0, 0) (f_X6_will_49  n x1 x2 σ) σ 49 [(0, .ref (K.G.A 0)), (1, .int x1), (2, .int x2)] [] := by
  intro n
  induction n with
  | zero => intro x1 x2 σ ; exact r_none
  | succ n ih =>
    intro x1 x2 σ 
    refine r_iload_n (i := 2) hO rfl rfl dX6_will_49 ?_
    refine r_sipush hO si_400 dX6_will_50 ?_
    refine r_icmp_ge (tgt := 91) hO dX6_will_53 (by decide) ?_ ?_
    · exact r_jmp (b_X6_will_91 hO hR x1 σ) (lsub_c rfl (lsub_c rfl lsub_n))
    · refine r_aload_n (i := 0) hO rfl rfl dX6_will_56 ?_
      refine gX6_58 hO dX6_will_57 ?_
      refine r_aload_n (i := 0) hO rfl rfl dX6_will_60 ?_
      refine gX6_45 hO dX6_will_61 ?_
      refine k_X4_isOver hO iR89 iM50 a_421 rfl ⟨rfl, rfl, Nat.le_refl _, Nat.le_refl _⟩ dX6_will_64 ?_
      intro r1 σ2
      refine r_if_ne (tgt := 91) hO dX6_will_67 (by decide) ?_ ?_
      · refine r_aload_n (i := 0) hO rfl rfl dX6_will_70 ?_
        refine gX6_58 hO dX6_will_71 ?_
        refine r_aload_n (i := 0) hO rfl rfl dX6_will_74 ?_
        refine gX6_45 hO dX6_will_75 ?_
        refine r_aload_n (i := 0) hO rfl rfl dX6_will_78 ?_
        refine gX6_21 hO dX6_will_79 ?_
        refine k_X4_tick hO iR89 iM50 a_422 rfl ⟨rfl, rfl, Nat.le_refl _, Nat.le_refl _⟩ dX6_will_82 ?_
        intro _ σ3
        refine r_iinc hO rfl ci_1 rfl rfl dX6_will_85 ?_
        refine r_goto (tgt := 49) hO dX6_will_88 (by decide) ?_
        exact r_jmp (ih x1 (x2 + (1 : Int32)) σ3) (lsub_c rfl (lsub_c rfl (lsub_c rfl lsub_n)))
      · exact r_jmp (b_X6_will_91 hO hR x1 σ2) (lsub_c rfl (lsub_c rfl lsub_n))
set_option maxRecDepth 20000 in
set_option maxHeartbeats 1000000 in
theorem b_X6_will {K : Kt}  (hO : Ok K cX6_will RX6 3 rm_X6_will) (hR : Rt K (some .int))  (a1 : Int32) (σ : Wd) : Cm K 3 (0, 0) (f_X6_will a1 σ) σ 0 [(0, .ref (K.G.A 0)), (1, .int a1)] [] := by
  refine r_aload_n (i := 0) hO rfl rfl dX6_will_0 ?_
  refine r_iload_n (i := 1) hO rfl rfl dX6_will_1 ?_
  refine r_iconst hO ci_0 dX6_will_2 ?_
  refine r_bipush hO bi_6 dX6_will_3 ?_
  refine k_X6_within hO a_316 rfl ⟨rfl, rfl, Nat.le_refl _, Nat.le_refl _⟩ dX6_will_5 ?_
  intro r1 σ2
  refine r_iconst hO ci_1 dX6_will_8 ?_
  refine r_aload_n (i := 0) hO rfl rfl dX6_will_9 ?_
  refine gX6_51 hO dX6_will_10 ?_
  refine gX6_213 hO iR63 dX6_will_13 ?_
  refine k_X6_granted hO a_317 rfl ⟨rfl, rfl, Nat.le_refl _, Nat.le_refl _⟩ dX6_will_16 ?_
  intro r3 σ4
  refine r_if_ne (tgt := 25) hO dX6_will_19 (by decide) ?_ ?_
  · refine r_ldc hO a_325 dX6_will_22 ?_
    exact r_iret hO hR dX6_will_24
  · refine r_aload_n (i := 0) hO rfl rfl dX6_will_25 ?_
    refine gX6_45 hO dX6_will_26 ?_
    refine r_aload_n (i := 0) hO rfl rfl dX6_will_29 ?_
    refine r_gd fun h5 => ?_
    refine gX6_39 hO dX6_will_30 ?_
    refine k_X3_copyFrom hO iM50 (bM_is h5) a_419 rfl ⟨rfl, rfl, Nat.le_refl _, Nat.le_refl _⟩ dX6_will_33 ?_
    intro _ σ6
    refine r_aload_n (i := 0) hO rfl rfl dX6_will_36 ?_
    refine gX6_58 hO dX6_will_37 ?_
    refine r_aload_n (i := 0) hO rfl rfl dX6_will_40 ?_
    refine gX6_51 hO dX6_will_41 ?_
    refine k_X4_copyFrom hO iR89 iR63 a_420 rfl ⟨rfl, rfl, Nat.le_refl _, Nat.le_refl _⟩ dX6_will_44 ?_
    intro _ σ7
    refine r_iconst hO ci_0 dX6_will_47 ?_
    refine r_istore_n (i := 2) hO rfl rfl rfl dX6_will_48 ?_
    exact r_jmp (b_X6_will_49 hO hR FU a1 (0 : Int32) σ7) (lsub_c rfl (lsub_c rfl (lsub_c rfl lsub_n)))
theorem c_X6_will {l : Launch} {G : Gh}   (a1 : Int32) (σ : Wd) : Con l G yX6_will cX6_will 3 (some .int) 6 152 [.ref (G.A 0), .int a1] σ (f_X6_will a1 σ) := Con.of (plainFor_of_name (by decide)) rfl (Nat.le_of_ble_eq_true rfl) (fun K hl hG hO hR => by subst hl; subst hG; exact b_X6_will hO hR  a1 σ)
theorem cal_X6_will : CalV yX6_will cX6_will 3 (some .int) 1 := ⟨a_423, a_424, a_425, a_2, by decide, by decide, by decide +kernel⟩
theorem k_X6_will {K : Kt} {nL : Nat} {cs : Nat × Nat} {σ : Wd} {pc : Nat} {lv : List (Nat × Value)} {st : List Value} {cc : ByteArray} {own : String} {rm : Room} {index : Nat} {g : Int32 → Wd → Option (Int32 × Wd)} {a1 : Int32} (hO : Ok K cc own nL rm)  (hl : Cond.methodLink own index yX6_will ∈ gtb) (hcat : Nat.ble ((st.map fun v => v.category).sum) 8 = true) (hR : RoomOk rm cs 6 152 3) (d : decode cc pc = .ok (.invokevirtual index, 3)) (kk : ∀ (r : Int32) (σ : Wd), Cm K nL cs (g r σ) σ (pc + 3) lv (.int r :: st)) : Cm K nL cs (bd (f_X6_will a1 σ) g) σ pc lv (.int a1 :: .ref (K.G.A 0) :: st) := r_cVi hO (c_X6_will  a1 σ) cal_X6_will hl rfl (by decide) ent_X6 rfl rfl hcat hR d kk
/-! OrderSplit.adopt -/
def f_X6_adopt_52   : Nat → Int32 → Wd → Option (Int32 × Wd)
  | 0 => fun _ _ => none
  | n + 1 => fun x2 σ => gd (bM (σ.2.2 0 4)) (if (σ.1 (σ.2.2 0 4) 3) ≤ x2 then (some (σ.1 4 0, σ)) else (gd (bM (σ.2.2 0 4)) (gd (inb x2 5) (gd (inb x2 5) (nmW (wi σ ((σ.2.2 0 4) + 7) (ix x2) (σ.1 5 (ix x2))) fun σ3 => (f_X6_adopt_52 n (x2 + (1 : Int32)) σ3))))))
def f_X6_adopt_29   (x1 : Int32) (s1 : Int32) (s2 : Int32) (s3 : Int32) (σ : Wd) : Option (Int32 × Wd) := bd (f_X6_granted s1 s2 s3 σ) fun r1 σ2 => if r1 = 0 then (some ((-1 : Int32), σ2)) else (gd (bM (σ2.2.2 0 4)) (bd (f_X1_choose (σ2.2.2 0 4) x1 (-1 : Int32) σ2) fun _ σ4 => (f_X6_adopt_52 FU (0 : Int32) σ4)))
def f_X6_adopt (a1 : Int32) (σ : Wd) : Option (Int32 × Wd) := gd (bM (σ.2.2 0 4)) (bd (f_X6_within a1 (1 : Int32) (σ.1 (σ.2.2 0 4) 0) σ) fun r2 σ3 => if (σ3.1 63 0) = 0 then (f_X6_adopt_29 a1 (1 : Int32) r2 (1 : Int32) σ3) else (f_X6_adopt_29 a1 (1 : Int32) r2 (0 : Int32) σ3))
set_option maxRecDepth 20000 in
set_option maxHeartbeats 1000000 in
theorem b_X6_adopt_52 {K : Kt}   (hO : Ok K cX6_adopt RX6 3 rm_X6_adopt) (hR : Rt K (some .int))   : ∀ (n : Nat) (x2 : Int32) (σ : Wd) , Cm K 3 (0, 0) (f_X6_adopt_52  n x2 σ) σ 52 [(0, .ref (K.G.A 0)), (2, .int x2)] [] := by
  intro n
  induction n with
  | zero => intro x2 σ ; exact r_none
  | succ n ih =>
    intro x2 σ 
    refine r_iload_n (i := 2) hO rfl rfl dX6_adopt_52 ?_
    refine r_aload_n (i := 0) hO rfl rfl dX6_adopt_53 ?_
    refine r_gd fun h1 => ?_
    refine gX6_39 hO dX6_adopt_54 ?_
    refine gX6_92 hO (bM_is h1) dX6_adopt_57 ?_
    refine r_icmp_ge (tgt := 87) hO dX6_adopt_60 (by decide) ?_ ?_
    · refine r_aload_n (i := 0) hO rfl rfl dX6_adopt_87 ?_
      refine gX6_21 hO dX6_adopt_88 ?_
      refine gX6_180 hO dX6_adopt_91 ?_
      exact r_iret hO hR dX6_adopt_94
    · refine r_aload_n (i := 0) hO rfl rfl dX6_adopt_63 ?_
      refine r_gd fun h2 => ?_
      refine gX6_39 hO dX6_adopt_64 ?_
      refine gX6_216 hO (bM_is h2) dX6_adopt_67 ?_
      refine r_iload_n (i := 2) hO rfl rfl dX6_adopt_70 ?_
      refine r_aload_n (i := 0) hO rfl rfl dX6_adopt_71 ?_
      refine gX6_21 hO dX6_adopt_72 ?_
      refine gX6_186 hO dX6_adopt_75 ?_
      refine r_iload_n (i := 2) hO rfl rfl dX6_adopt_78 ?_
      refine r_iald hO s_5 dX6_adopt_79 ?_
      refine r_iast hO (sM_7 (bM_is h2)) dX6_adopt_80 ?_
      refine r_nmW fun σ3 => ?_
      refine r_iinc hO rfl ci_1 rfl rfl dX6_adopt_81 ?_
      refine r_goto (tgt := 52) hO dX6_adopt_84 (by decide) ?_
      exact r_jmp (ih (x2 + (1 : Int32)) σ3) (lsub_c rfl (lsub_c rfl lsub_n))
set_option maxRecDepth 20000 in
set_option maxHeartbeats 1000000 in
theorem b_X6_adopt_29 {K : Kt}   (hO : Ok K cX6_adopt RX6 3 rm_X6_adopt) (hR : Rt K (some .int))   (x1 : Int32) (s1 : Int32) (s2 : Int32) (s3 : Int32) (σ : Wd)  : Cm K 3 (0, 0) (f_X6_adopt_29  x1 s1 s2 s3 σ) σ 29 [(0, .ref (K.G.A 0)), (1, .int x1)] [.int s3, .int s2, .int s1, .ref (K.G.A 0)] := by
  refine k_X6_granted hO a_317 rfl ⟨rfl, rfl, Nat.le_refl _, Nat.le_refl _⟩ dX6_adopt_29 ?_
  intro r1 σ2
  refine r_if_ne (tgt := 37) hO dX6_adopt_32 (by decide) ?_ ?_
  · refine r_iconst hO ci_m1 dX6_adopt_35 ?_
    exact r_iret hO hR dX6_adopt_36
  · refine r_aload_n (i := 0) hO rfl rfl dX6_adopt_37 ?_
    refine gX6_21 hO dX6_adopt_38 ?_
    refine r_aload_n (i := 0) hO rfl rfl dX6_adopt_41 ?_
    refine r_gd fun h3 => ?_
    refine gX6_39 hO dX6_adopt_42 ?_
    refine r_iload_n (i := 1) hO rfl rfl dX6_adopt_45 ?_
    refine r_iconst hO ci_m1 dX6_adopt_46 ?_
    refine k_X1_choose hO (bM_is h3) a_355 rfl ⟨rfl, rfl, Nat.le_refl _, Nat.le_refl _⟩ dX6_adopt_47 ?_
    intro _ σ4
    refine r_iconst hO ci_0 dX6_adopt_50 ?_
    refine r_istore_n (i := 2) hO rfl rfl rfl dX6_adopt_51 ?_
    exact r_jmp (b_X6_adopt_52 hO hR FU (0 : Int32) σ4) (lsub_c rfl (lsub_c rfl lsub_n))
set_option maxRecDepth 20000 in
set_option maxHeartbeats 1000000 in
theorem b_X6_adopt {K : Kt}  (hO : Ok K cX6_adopt RX6 3 rm_X6_adopt) (hR : Rt K (some .int))  (a1 : Int32) (σ : Wd) : Cm K 3 (0, 0) (f_X6_adopt a1 σ) σ 0 [(0, .ref (K.G.A 0)), (1, .int a1)] [] := by
  refine r_aload_n (i := 0) hO rfl rfl dX6_adopt_0 ?_
  refine r_iconst hO ci_1 dX6_adopt_1 ?_
  refine r_iload_n (i := 1) hO rfl rfl dX6_adopt_2 ?_
  refine r_iconst hO ci_1 dX6_adopt_3 ?_
  refine r_aload_n (i := 0) hO rfl rfl dX6_adopt_4 ?_
  refine r_gd fun h1 => ?_
  refine gX6_39 hO dX6_adopt_5 ?_
  refine gX6_106 hO (bM_is h1) dX6_adopt_8 ?_
  refine k_X6_within hO a_316 rfl ⟨rfl, rfl, Nat.le_refl _, Nat.le_refl _⟩ dX6_adopt_11 ?_
  intro r2 σ3
  refine r_aload_n (i := 0) hO rfl rfl dX6_adopt_14 ?_
  refine gX6_51 hO dX6_adopt_15 ?_
  refine gX6_213 hO iR63 dX6_adopt_18 ?_
  refine r_if_ne (tgt := 28) hO dX6_adopt_21 (by decide) ?_ ?_
  · refine r_iconst hO ci_1 dX6_adopt_24 ?_
    refine r_goto (tgt := 29) hO dX6_adopt_25 (by decide) ?_
    exact r_jmp (b_X6_adopt_29 hO hR a1 (1 : Int32) r2 (1 : Int32) σ3) (lsub_c rfl (lsub_c rfl lsub_n))
  · refine r_iconst hO ci_0 dX6_adopt_28 ?_
    exact r_jmp (b_X6_adopt_29 hO hR a1 (1 : Int32) r2 (0 : Int32) σ3) (lsub_c rfl (lsub_c rfl lsub_n))
theorem c_X6_adopt {l : Launch} {G : Gh}   (a1 : Int32) (σ : Wd) : Con l G yX6_adopt cX6_adopt 3 (some .int) 4 103 [.ref (G.A 0), .int a1] σ (f_X6_adopt a1 σ) := Con.of (plainFor_of_name (by decide)) rfl (Nat.le_of_ble_eq_true rfl) (fun K hl hG hO hR => by subst hl; subst hG; exact b_X6_adopt hO hR  a1 σ)
theorem cal_X6_adopt : CalV yX6_adopt cX6_adopt 3 (some .int) 1 := ⟨a_426, a_427, a_428, a_2, by decide, by decide, by decide +kernel⟩
theorem k_X6_adopt {K : Kt} {nL : Nat} {cs : Nat × Nat} {σ : Wd} {pc : Nat} {lv : List (Nat × Value)} {st : List Value} {cc : ByteArray} {own : String} {rm : Room} {index : Nat} {g : Int32 → Wd → Option (Int32 × Wd)} {a1 : Int32} (hO : Ok K cc own nL rm)  (hl : Cond.methodLink own index yX6_adopt ∈ gtb) (hcat : Nat.ble ((st.map fun v => v.category).sum) 8 = true) (hR : RoomOk rm cs 4 103 3) (d : decode cc pc = .ok (.invokevirtual index, 3)) (kk : ∀ (r : Int32) (σ : Wd), Cm K nL cs (g r σ) σ (pc + 3) lv (.int r :: st)) : Cm K nL cs (bd (f_X6_adopt a1 σ) g) σ pc lv (.int a1 :: .ref (K.G.A 0) :: st) := r_cVi hO (c_X6_adopt  a1 σ) cal_X6_adopt hl rfl (by decide) ent_X6 rfl rfl hcat hR d kk
/-! OrderSplit.fee -/
def f_X6_fee_29   (x1 : Int32) (x2 : Int32) (s1 : Int32) (s2 : Int32) (s3 : Int32) (σ : Wd) : Option (Int32 × Wd) := bd (f_X6_granted s1 s2 s3 σ) fun r1 σ2 => if r1 = 0 then (some ((-2147483648 : Int32), σ2)) else (gd (bM (σ2.2.2 0 4)) (gd (inb x1 5) (gd (bM (σ2.2.2 0 4)) (gd (inb x1 5) (nmW (wi σ2 ((σ2.2.2 0 4) + 3) (ix x1) x2) fun σ5 => some (σ2.1 ((σ2.2.2 0 4) + 3) (ix x1), σ5))))))
def f_X6_fee (a1 : Int32) (a2 : Int32) (σ : Wd) : Option (Int32 × Wd) := bd (f_X6_isVenue a1 σ) fun r1 σ2 => bd (f_X6_within a2 (-9 : Int32) (9 : Int32) σ2) fun r3 σ4 => if (σ4.1 63 0) = 0 then (f_X6_fee_29 a1 a2 r1 r3 (1 : Int32) σ4) else (f_X6_fee_29 a1 a2 r1 r3 (0 : Int32) σ4)
set_option maxRecDepth 20000 in
set_option maxHeartbeats 1000000 in
theorem b_X6_fee_29 {K : Kt}   (hO : Ok K cX6_fee RX6 4 rm_X6_fee) (hR : Rt K (some .int))   (x1 : Int32) (x2 : Int32) (s1 : Int32) (s2 : Int32) (s3 : Int32) (σ : Wd)  : Cm K 4 (0, 0) (f_X6_fee_29  x1 x2 s1 s2 s3 σ) σ 29 [(0, .ref (K.G.A 0)), (1, .int x1), (2, .int x2)] [.int s3, .int s2, .int s1, .ref (K.G.A 0)] := by
  refine k_X6_granted hO a_317 rfl ⟨rfl, rfl, Nat.le_refl _, Nat.le_refl _⟩ dX6_fee_29 ?_
  intro r1 σ2
  refine r_if_ne (tgt := 38) hO dX6_fee_32 (by decide) ?_ ?_
  · refine r_ldc hO a_325 dX6_fee_35 ?_
    exact r_iret hO hR dX6_fee_37
  · refine r_aload_n (i := 0) hO rfl rfl dX6_fee_38 ?_
    refine r_gd fun h3 => ?_
    refine gX6_39 hO dX6_fee_39 ?_
    refine gX6_130 hO (bM_is h3) dX6_fee_42 ?_
    refine r_iload_n (i := 1) hO rfl rfl dX6_fee_45 ?_
    refine r_iald hO (sM_3 (bM_is h3)) dX6_fee_46 ?_
    refine r_istore_n (i := 3) hO rfl rfl rfl dX6_fee_47 ?_
    refine r_aload_n (i := 0) hO rfl rfl dX6_fee_48 ?_
    refine r_gd fun h4 => ?_
    refine gX6_39 hO dX6_fee_49 ?_
    refine gX6_130 hO (bM_is h4) dX6_fee_52 ?_
    refine r_iload_n (i := 1) hO rfl rfl dX6_fee_55 ?_
    refine r_iload_n (i := 2) hO rfl rfl dX6_fee_56 ?_
    refine r_iast hO (sM_3 (bM_is h4)) dX6_fee_57 ?_
    refine r_nmW fun σ5 => ?_
    refine r_iload_n (i := 3) hO rfl rfl dX6_fee_58 ?_
    exact r_iret hO hR dX6_fee_59
set_option maxRecDepth 20000 in
set_option maxHeartbeats 1000000 in
theorem b_X6_fee {K : Kt}  (hO : Ok K cX6_fee RX6 4 rm_X6_fee) (hR : Rt K (some .int))  (a1 : Int32) (a2 : Int32) (σ : Wd) : Cm K 4 (0, 0) (f_X6_fee a1 a2 σ) σ 0 [(0, .ref (K.G.A 0)), (1, .int a1), (2, .int a2)] [] := by
  refine r_aload_n (i := 0) hO rfl rfl dX6_fee_0 ?_
  refine r_aload_n (i := 0) hO rfl rfl dX6_fee_1 ?_
  refine r_iload_n (i := 1) hO rfl rfl dX6_fee_2 ?_
  refine k_X6_isVenue hO a_324 rfl ⟨rfl, rfl, Nat.le_refl _, Nat.le_refl _⟩ dX6_fee_3 ?_
  intro r1 σ2
  refine r_iload_n (i := 2) hO rfl rfl dX6_fee_6 ?_
  refine r_bipush hO bi_m9 dX6_fee_7 ?_
  refine r_bipush hO bi_9 dX6_fee_9 ?_
  refine k_X6_within hO a_316 rfl ⟨rfl, rfl, Nat.le_refl _, Nat.le_refl _⟩ dX6_fee_11 ?_
  intro r3 σ4
  refine r_aload_n (i := 0) hO rfl rfl dX6_fee_14 ?_
  refine gX6_51 hO dX6_fee_15 ?_
  refine gX6_213 hO iR63 dX6_fee_18 ?_
  refine r_if_ne (tgt := 28) hO dX6_fee_21 (by decide) ?_ ?_
  · refine r_iconst hO ci_1 dX6_fee_24 ?_
    refine r_goto (tgt := 29) hO dX6_fee_25 (by decide) ?_
    exact r_jmp (b_X6_fee_29 hO hR a1 a2 r1 r3 (1 : Int32) σ4) (lsub_c rfl (lsub_c rfl (lsub_c rfl lsub_n)))
  · refine r_iconst hO ci_0 dX6_fee_28 ?_
    exact r_jmp (b_X6_fee_29 hO hR a1 a2 r1 r3 (0 : Int32) σ4) (lsub_c rfl (lsub_c rfl (lsub_c rfl lsub_n)))
theorem c_X6_fee {l : Launch} {G : Gh}   (a1 : Int32) (a2 : Int32) (σ : Wd) : Con l G yX6_fee cX6_fee 4 (some .int) 1 23 [.ref (G.A 0), .int a1, .int a2] σ (f_X6_fee a1 a2 σ) := Con.of (plainFor_of_name (by decide)) rfl (Nat.le_of_ble_eq_true rfl) (fun K hl hG hO hR => by subst hl; subst hG; exact b_X6_fee hO hR  a1 a2 σ)
theorem cal_X6_fee : CalV yX6_fee cX6_fee 4 (some .int) 2 := ⟨a_429, a_430, a_431, a_2, by decide, by decide, by decide +kernel⟩
theorem k_X6_fee {K : Kt} {nL : Nat} {cs : Nat × Nat} {σ : Wd} {pc : Nat} {lv : List (Nat × Value)} {st : List Value} {cc : ByteArray} {own : String} {rm : Room} {index : Nat} {g : Int32 → Wd → Option (Int32 × Wd)} {a1 : Int32} {a2 : Int32} (hO : Ok K cc own nL rm)  (hl : Cond.methodLink own index yX6_fee ∈ gtb) (hcat : Nat.ble ((st.map fun v => v.category).sum) 8 = true) (hR : RoomOk rm cs 1 23 4) (d : decode cc pc = .ok (.invokevirtual index, 3)) (kk : ∀ (r : Int32) (σ : Wd), Cm K nL cs (g r σ) σ (pc + 3) lv (.int r :: st)) : Cm K nL cs (bd (f_X6_fee a1 a2 σ) g) σ pc lv (.int a2 :: .int a1 :: .ref (K.G.A 0) :: st) := r_cVi hO (c_X6_fee  a1 a2 σ) cal_X6_fee hl rfl (by decide) ent_X6 rfl rfl hcat hR d kk
/-! OrderSplit.resize -/
def f_X6_resize (a1 : Int32) (a2 : Int32) (a3 : Int32) (σ : Wd) : Option (Int32 × Wd) := bd (f_X6_isLevel a1 a2 σ) fun r1 σ2 => bd (f_X6_within a3 (0 : Int32) (99 : Int32) σ2) fun r3 σ4 => bd (f_X6_granted r1 r3 (1 : Int32) σ4) fun r5 σ6 => if r5 = 0 then (some ((-1 : Int32), σ6)) else (bd (f_X6_slot a1 a2 σ6) fun r7 σ8 => gd (bM (σ8.2.2 0 4)) (gd (inb r7 30) (gd (bM (σ8.2.2 0 4)) (gd (inb r7 30) (nmW (wi σ8 ((σ8.2.2 0 4) + 9) (ix r7) a3) fun σ11 => some (σ8.1 ((σ8.2.2 0 4) + 9) (ix r7), σ11))))))
set_option maxRecDepth 20000 in
set_option maxHeartbeats 1000000 in
theorem b_X6_resize {K : Kt}  (hO : Ok K cX6_resize RX6 6 rm_X6_resize) (hR : Rt K (some .int))  (a1 : Int32) (a2 : Int32) (a3 : Int32) (σ : Wd) : Cm K 6 (0, 0) (f_X6_resize a1 a2 a3 σ) σ 0 [(0, .ref (K.G.A 0)), (1, .int a1), (2, .int a2), (3, .int a3)] [] := by
  refine r_aload_n (i := 0) hO rfl rfl dX6_resize_0 ?_
  refine r_aload_n (i := 0) hO rfl rfl dX6_resize_1 ?_
  refine r_iload_n (i := 1) hO rfl rfl dX6_resize_2 ?_
  refine r_iload_n (i := 2) hO rfl rfl dX6_resize_3 ?_
  refine k_X6_isLevel hO a_333 rfl ⟨rfl, rfl, Nat.le_refl _, Nat.le_refl _⟩ dX6_resize_4 ?_
  intro r1 σ2
  refine r_iload_n (i := 3) hO rfl rfl dX6_resize_7 ?_
  refine r_iconst hO ci_0 dX6_resize_8 ?_
  refine r_bipush hO bi_99 dX6_resize_9 ?_
  refine k_X6_within hO a_316 rfl ⟨rfl, rfl, Nat.le_refl _, Nat.le_refl _⟩ dX6_resize_11 ?_
  intro r3 σ4
  refine r_iconst hO ci_1 dX6_resize_14 ?_
  refine k_X6_granted hO a_317 rfl ⟨rfl, rfl, Nat.le_refl _, Nat.le_refl _⟩ dX6_resize_15 ?_
  intro r5 σ6
  refine r_if_ne (tgt := 23) hO dX6_resize_18 (by decide) ?_ ?_
  · refine r_iconst hO ci_m1 dX6_resize_21 ?_
    exact r_iret hO hR dX6_resize_22
  · refine r_iload_n (i := 1) hO rfl rfl dX6_resize_23 ?_
    refine r_iload_n (i := 2) hO rfl rfl dX6_resize_24 ?_
    refine k_X6_slot hO a_334 rfl ⟨rfl, rfl, Nat.le_refl _, Nat.le_refl _⟩ dX6_resize_25 ?_
    intro r7 σ8
    refine r_istore hO rfl rfl dX6_resize_28 ?_
    refine r_aload_n (i := 0) hO rfl rfl dX6_resize_30 ?_
    refine r_gd fun h9 => ?_
    refine gX6_39 hO dX6_resize_31 ?_
    refine gX6_157 hO (bM_is h9) dX6_resize_34 ?_
    refine r_iload hO (d := dX6_resize_37) rfl ?_
    refine r_iald hO (sM_9 (bM_is h9)) dX6_resize_39 ?_
    refine r_istore hO rfl rfl dX6_resize_40 ?_
    refine r_aload_n (i := 0) hO rfl rfl dX6_resize_42 ?_
    refine r_gd fun h10 => ?_
    refine gX6_39 hO dX6_resize_43 ?_
    refine gX6_157 hO (bM_is h10) dX6_resize_46 ?_
    refine r_iload hO (d := dX6_resize_49) rfl ?_
    refine r_iload_n (i := 3) hO rfl rfl dX6_resize_51 ?_
    refine r_iast hO (sM_9 (bM_is h10)) dX6_resize_52 ?_
    refine r_nmW fun σ11 => ?_
    refine r_iload hO (d := dX6_resize_53) rfl ?_
    exact r_iret hO hR dX6_resize_55
theorem c_X6_resize {l : Launch} {G : Gh}   (a1 : Int32) (a2 : Int32) (a3 : Int32) (σ : Wd) : Con l G yX6_resize cX6_resize 6 (some .int) 2 43 [.ref (G.A 0), .int a1, .int a2, .int a3] σ (f_X6_resize a1 a2 a3 σ) := Con.of (plainFor_of_name (by decide)) rfl (Nat.le_of_ble_eq_true rfl) (fun K hl hG hO hR => by subst hl; subst hG; exact b_X6_resize hO hR  a1 a2 a3 σ)
theorem cal_X6_resize : CalV yX6_resize cX6_resize 6 (some .int) 3 := ⟨a_432, a_433, a_434, a_2, by decide, by decide, by decide +kernel⟩
theorem k_X6_resize {K : Kt} {nL : Nat} {cs : Nat × Nat} {σ : Wd} {pc : Nat} {lv : List (Nat × Value)} {st : List Value} {cc : ByteArray} {own : String} {rm : Room} {index : Nat} {g : Int32 → Wd → Option (Int32 × Wd)} {a1 : Int32} {a2 : Int32} {a3 : Int32} (hO : Ok K cc own nL rm)  (hl : Cond.methodLink own index yX6_resize ∈ gtb) (hcat : Nat.ble ((st.map fun v => v.category).sum) 8 = true) (hR : RoomOk rm cs 2 43 6) (d : decode cc pc = .ok (.invokevirtual index, 3)) (kk : ∀ (r : Int32) (σ : Wd), Cm K nL cs (g r σ) σ (pc + 3) lv (.int r :: st)) : Cm K nL cs (bd (f_X6_resize a1 a2 a3 σ) g) σ pc lv (.int a3 :: .int a2 :: .int a1 :: .ref (K.G.A 0) :: st) := r_cVi hO (c_X6_resize  a1 a2 a3 σ) cal_X6_resize hl rfl (by decide) ent_X6 rfl rfl hcat hR d kk
/-! OrderSplit.order -/
def f_X6_order_24   (x1 : Int32) (s1 : Int32) (s2 : Int32) (s3 : Int32) (σ : Wd) : Option (Int32 × Wd) := bd (f_X6_granted s1 s2 s3 σ) fun r1 σ2 => if r1 = 0 then (some ((-1 : Int32), σ2)) else (gd (bM (σ2.2.2 0 4)) (gd (bM (σ2.2.2 0 4)) (nmW (wi σ2 (σ2.2.2 0 4) 0 x1) fun σ5 => some (σ2.1 (σ2.2.2 0 4) 0, σ5))))
def f_X6_order (a1 : Int32) (σ : Wd) : Option (Int32 × Wd) := bd (f_X6_within a1 (1 : Int32) (120 : Int32) σ) fun r1 σ2 => if (σ2.1 63 0) = 0 then (f_X6_order_24 a1 (1 : Int32) r1 (1 : Int32) σ2) else (f_X6_order_24 a1 (1 : Int32) r1 (0 : Int32) σ2)
set_option maxRecDepth 20000 in
set_option maxHeartbeats 1000000 in
theorem b_X6_order_24 {K : Kt}   (hO : Ok K cX6_order RX6 3 rm_X6_order) (hR : Rt K (some .int))   (x1 : Int32) (s1 : Int32) (s2 : Int32) (s3 : Int32) (σ : Wd)  : Cm K 3 (0, 0) (f_X6_order_24  x1 s1 s2 s3 σ) σ 24 [(0, .ref (K.G.A 0)), (1, .int x1)] [.int s3, .int s2, .int s1, .ref (K.G.A 0)] := by
  refine k_X6_granted hO a_317 rfl ⟨rfl, rfl, Nat.le_refl _, Nat.le_refl _⟩ dX6_order_24 ?_
  intro r1 σ2
  refine r_if_ne (tgt := 32) hO dX6_order_27 (by decide) ?_ ?_
  · refine r_iconst hO ci_m1 dX6_order_30 ?_
    exact r_iret hO hR dX6_order_31
  · refine r_aload_n (i := 0) hO rfl rfl dX6_order_32 ?_
    refine r_gd fun h3 => ?_
    refine gX6_39 hO dX6_order_33 ?_
    refine gX6_106 hO (bM_is h3) dX6_order_36 ?_
    refine r_istore_n (i := 2) hO rfl rfl rfl dX6_order_39 ?_
    refine r_aload_n (i := 0) hO rfl rfl dX6_order_40 ?_
    refine r_gd fun h4 => ?_
    refine gX6_39 hO dX6_order_41 ?_
    refine r_iload_n (i := 1) hO rfl rfl dX6_order_44 ?_
    refine pX6_106 hO (bM_is h4) dX6_order_45 ?_
    refine r_nmW fun σ5 => ?_
    refine r_iload_n (i := 2) hO rfl rfl dX6_order_48 ?_
    exact r_iret hO hR dX6_order_49
set_option maxRecDepth 20000 in
set_option maxHeartbeats 1000000 in
theorem b_X6_order {K : Kt}  (hO : Ok K cX6_order RX6 3 rm_X6_order) (hR : Rt K (some .int))  (a1 : Int32) (σ : Wd) : Cm K 3 (0, 0) (f_X6_order a1 σ) σ 0 [(0, .ref (K.G.A 0)), (1, .int a1)] [] := by
  refine r_aload_n (i := 0) hO rfl rfl dX6_order_0 ?_
  refine r_iconst hO ci_1 dX6_order_1 ?_
  refine r_iload_n (i := 1) hO rfl rfl dX6_order_2 ?_
  refine r_iconst hO ci_1 dX6_order_3 ?_
  refine r_bipush hO bi_120 dX6_order_4 ?_
  refine k_X6_within hO a_316 rfl ⟨rfl, rfl, Nat.le_refl _, Nat.le_refl _⟩ dX6_order_6 ?_
  intro r1 σ2
  refine r_aload_n (i := 0) hO rfl rfl dX6_order_9 ?_
  refine gX6_51 hO dX6_order_10 ?_
  refine gX6_213 hO iR63 dX6_order_13 ?_
  refine r_if_ne (tgt := 23) hO dX6_order_16 (by decide) ?_ ?_
  · refine r_iconst hO ci_1 dX6_order_19 ?_
    refine r_goto (tgt := 24) hO dX6_order_20 (by decide) ?_
    exact r_jmp (b_X6_order_24 hO hR a1 (1 : Int32) r1 (1 : Int32) σ2) (lsub_c rfl (lsub_c rfl lsub_n))
  · refine r_iconst hO ci_0 dX6_order_23 ?_
    exact r_jmp (b_X6_order_24 hO hR a1 (1 : Int32) r1 (0 : Int32) σ2) (lsub_c rfl (lsub_c rfl lsub_n))
theorem c_X6_order {l : Launch} {G : Gh}   (a1 : Int32) (σ : Wd) : Con l G yX6_order cX6_order 3 (some .int) 1 23 [.ref (G.A 0), .int a1] σ (f_X6_order a1 σ) := Con.of (plainFor_of_name (by decide)) rfl (Nat.le_of_ble_eq_true rfl) (fun K hl hG hO hR => by subst hl; subst hG; exact b_X6_order hO hR  a1 σ)
theorem cal_X6_order : CalV yX6_order cX6_order 3 (some .int) 1 := ⟨a_435, a_436, a_437, a_2, by decide, by decide, by decide +kernel⟩
theorem k_X6_order {K : Kt} {nL : Nat} {cs : Nat × Nat} {σ : Wd} {pc : Nat} {lv : List (Nat × Value)} {st : List Value} {cc : ByteArray} {own : String} {rm : Room} {index : Nat} {g : Int32 → Wd → Option (Int32 × Wd)} {a1 : Int32} (hO : Ok K cc own nL rm)  (hl : Cond.methodLink own index yX6_order ∈ gtb) (hcat : Nat.ble ((st.map fun v => v.category).sum) 8 = true) (hR : RoomOk rm cs 1 23 3) (d : decode cc pc = .ok (.invokevirtual index, 3)) (kk : ∀ (r : Int32) (σ : Wd), Cm K nL cs (g r σ) σ (pc + 3) lv (.int r :: st)) : Cm K nL cs (bd (f_X6_order a1 σ) g) σ pc lv (.int a1 :: .ref (K.G.A 0) :: st) := r_cVi hO (c_X6_order  a1 σ) cal_X6_order hl rfl (by decide) ent_X6 rfl rfl hcat hR d kk
/-! OrderSplit.begin -/
def f_X6_begin_18   (s1 : Int32) (s2 : Int32) (s3 : Int32) (σ : Wd) : Option (Int32 × Wd) := bd (f_X6_granted s1 s2 s3 σ) fun r1 σ2 => if r1 = 0 then (some ((-1 : Int32), σ2)) else (gd (isb (1 : Int32)) (nmW (wi σ2 63 0 (1 : Int32)) fun σ3 => gd (bM (σ3.2.2 0 4)) (nmW (wi σ3 63 2 (σ3.1 (σ3.2.2 0 4) 0)) fun σ5 => gd (bM (σ5.2.2 0 4)) (bd (f_X4_startRound 63 (σ5.2.2 0 4) σ5) fun r7 σ8 => some (r7, σ8)))))
def f_X6_begin  (σ : Wd) : Option (Int32 × Wd) := if (σ.1 63 0) = 0 then (f_X6_begin_18 (1 : Int32) (1 : Int32) (1 : Int32) σ) else (f_X6_begin_18 (1 : Int32) (1 : Int32) (0 : Int32) σ)
set_option maxRecDepth 20000 in
set_option maxHeartbeats 1000000 in
theorem b_X6_begin_18 {K : Kt}   (hO : Ok K cX6_begin RX6 1 rm_X6_begin) (hR : Rt K (some .int))   (s1 : Int32) (s2 : Int32) (s3 : Int32) (σ : Wd)  : Cm K 1 (0, 0) (f_X6_begin_18  s1 s2 s3 σ) σ 18 [(0, .ref (K.G.A 0))] [.int s3, .int s2, .int s1, .ref (K.G.A 0)] := by
  refine k_X6_granted hO a_317 rfl ⟨rfl, rfl, Nat.le_refl _, Nat.le_refl _⟩ dX6_begin_18 ?_
  intro r1 σ2
  refine r_if_ne (tgt := 26) hO dX6_begin_21 (by decide) ?_ ?_
  · refine r_iconst hO ci_m1 dX6_begin_24 ?_
    exact r_iret hO hR dX6_begin_25
  · refine r_aload_n (i := 0) hO rfl rfl dX6_begin_26 ?_
    refine gX6_51 hO dX6_begin_27 ?_
    refine r_iconst hO ci_1 dX6_begin_30 ?_
    refine pX6_213 hO iR63 dX6_begin_31 ?_
    refine r_nmW fun σ3 => ?_
    refine r_aload_n (i := 0) hO rfl rfl dX6_begin_34 ?_
    refine gX6_51 hO dX6_begin_35 ?_
    refine r_aload_n (i := 0) hO rfl rfl dX6_begin_38 ?_
    refine r_gd fun h4 => ?_
    refine gX6_39 hO dX6_begin_39 ?_
    refine gX6_106 hO (bM_is h4) dX6_begin_42 ?_
    refine pX6_275 hO iR63 dX6_begin_45 ?_
    refine r_nmW fun σ5 => ?_
    refine r_aload_n (i := 0) hO rfl rfl dX6_begin_48 ?_
    refine gX6_51 hO dX6_begin_49 ?_
    refine r_aload_n (i := 0) hO rfl rfl dX6_begin_52 ?_
    refine r_gd fun h6 => ?_
    refine gX6_39 hO dX6_begin_53 ?_
    refine r_aload_n (i := 0) hO rfl rfl dX6_begin_56 ?_
    refine gX6_21 hO dX6_begin_57 ?_
    refine k_X4_startRound hO iR63 (bM_is h6) a_438 rfl ⟨rfl, rfl, Nat.le_refl _, Nat.le_refl _⟩ dX6_begin_60 ?_
    intro r7 σ8
    exact r_iret hO hR dX6_begin_63
set_option maxRecDepth 20000 in
set_option maxHeartbeats 1000000 in
theorem b_X6_begin {K : Kt}  (hO : Ok K cX6_begin RX6 1 rm_X6_begin) (hR : Rt K (some .int))   (σ : Wd) : Cm K 1 (0, 0) (f_X6_begin  σ) σ 0 [(0, .ref (K.G.A 0))] [] := by
  refine r_aload_n (i := 0) hO rfl rfl dX6_begin_0 ?_
  refine r_iconst hO ci_1 dX6_begin_1 ?_
  refine r_iconst hO ci_1 dX6_begin_2 ?_
  refine r_aload_n (i := 0) hO rfl rfl dX6_begin_3 ?_
  refine gX6_51 hO dX6_begin_4 ?_
  refine gX6_213 hO iR63 dX6_begin_7 ?_
  refine r_if_ne (tgt := 17) hO dX6_begin_10 (by decide) ?_ ?_
  · refine r_iconst hO ci_1 dX6_begin_13 ?_
    refine r_goto (tgt := 18) hO dX6_begin_14 (by decide) ?_
    exact r_jmp (b_X6_begin_18 hO hR (1 : Int32) (1 : Int32) (1 : Int32) σ) (lsub_c rfl lsub_n)
  · refine r_iconst hO ci_0 dX6_begin_17 ?_
    exact r_jmp (b_X6_begin_18 hO hR (1 : Int32) (1 : Int32) (0 : Int32) σ) (lsub_c rfl lsub_n)
theorem c_X6_begin {l : Launch} {G : Gh}    (σ : Wd) : Con l G yX6_begin cX6_begin 1 (some .int) 5 129 [.ref (G.A 0)] σ (f_X6_begin  σ) := Con.of (plainFor_of_name (by decide)) rfl (Nat.le_of_ble_eq_true rfl) (fun K hl hG hO hR => by subst hl; subst hG; exact b_X6_begin hO hR   σ)
theorem cal_X6_begin : CalV yX6_begin cX6_begin 1 (some .int) 0 := ⟨a_439, a_440, a_441, a_2, by decide, by decide, by decide +kernel⟩
theorem k_X6_begin {K : Kt} {nL : Nat} {cs : Nat × Nat} {σ : Wd} {pc : Nat} {lv : List (Nat × Value)} {st : List Value} {cc : ByteArray} {own : String} {rm : Room} {index : Nat} {g : Int32 → Wd → Option (Int32 × Wd)}  (hO : Ok K cc own nL rm)  (hl : Cond.methodLink own index yX6_begin ∈ gtb) (hcat : Nat.ble ((st.map fun v => v.category).sum) 8 = true) (hR : RoomOk rm cs 5 129 1) (d : decode cc pc = .ok (.invokevirtual index, 3)) (kk : ∀ (r : Int32) (σ : Wd), Cm K nL cs (g r σ) σ (pc + 3) lv (.int r :: st)) : Cm K nL cs (bd (f_X6_begin  σ) g) σ pc lv (.ref (K.G.A 0) :: st) := r_cVi hO (c_X6_begin   σ) cal_X6_begin hl rfl (by decide) ent_X6 rfl rfl hcat hR d kk
/-! OrderSplit.ticks -/
def f_X6_ticks_35   : Nat → Int32 → Int32 → Int32 → Wd → Option (Int32 × Wd)
  | 0 => fun _ _ _ _ => none
  | n + 1 => fun x1 x2 x3 σ => if x1 ≤ x3 then (some ((σ.1 63 3) - x2, σ)) else (gd (bM (σ.2.2 0 4)) (bd (f_X4_tick 63 (σ.2.2 0 4) σ) fun _ σ2 => (f_X6_ticks_35 n x1 x2 (x3 + (1 : Int32)) σ2)))
def f_X6_ticks (a1 : Int32) (σ : Wd) : Option (Int32 × Wd) := bd (f_X6_within a1 (1 : Int32) (200 : Int32) σ) fun r1 σ2 => bd (f_X6_granted (1 : Int32) r1 (σ2.1 63 0) σ2) fun r3 σ4 => if r3 = 0 then (some ((-1 : Int32), σ4)) else (f_X6_ticks_35 FU a1 (σ4.1 63 3) (0 : Int32) σ4)
set_option maxRecDepth 20000 in
set_option maxHeartbeats 1000000 in
theorem b_X6_ticks_35 {K : Kt}   (hO : Ok K cX6_ticks RX6 4 rm_X6_ticks) (hR : Rt K (some .int))   : ∀ (n : Nat) (x1 : Int32) (x2 : Int32) (x3 : Int32) (σ : Wd) , Cm K 4 (0, 0) (f_X6_ticks_35  n x1 x2 x3 σ) σ 35 [(0, .ref (K.G.A 0)), (1, .int x1), (2, .int x2), (3, .int x3)] [] := by
  intro n
  induction n with
  | zero => intro x1 x2 x3 σ ; exact r_none
  | succ n ih =>
    intro x1 x2 x3 σ 
    refine r_iload_n (i := 3) hO rfl rfl dX6_ticks_35 ?_
    refine r_iload_n (i := 1) hO rfl rfl dX6_ticks_36 ?_
    refine r_icmp_ge (tgt := 61) hO dX6_ticks_37 (by decide) ?_ ?_
    · refine r_aload_n (i := 0) hO rfl rfl dX6_ticks_61 ?_
      refine gX6_51 hO dX6_ticks_62 ?_
      refine gX6_282 hO iR63 dX6_ticks_65 ?_
      refine r_iload_n (i := 2) hO rfl rfl dX6_ticks_68 ?_
      refine r_isub hO dX6_ticks_69 ?_
      exact r_iret hO hR dX6_ticks_70
    · refine r_aload_n (i := 0) hO rfl rfl dX6_ticks_40 ?_
      refine gX6_51 hO dX6_ticks_41 ?_
      refine r_aload_n (i := 0) hO rfl rfl dX6_ticks_44 ?_
      refine r_gd fun h1 => ?_
      refine gX6_39 hO dX6_ticks_45 ?_
      refine r_aload_n (i := 0) hO rfl rfl dX6_ticks_48 ?_
      refine gX6_21 hO dX6_ticks_49 ?_
      refine k_X4_tick hO iR63 (bM_is h1) a_422 rfl ⟨rfl, rfl, Nat.le_refl _, Nat.le_refl _⟩ dX6_ticks_52 ?_
      intro _ σ2
      refine r_iinc hO rfl ci_1 rfl rfl dX6_ticks_55 ?_
      refine r_goto (tgt := 35) hO dX6_ticks_58 (by decide) ?_
      exact r_jmp (ih x1 x2 (x3 + (1 : Int32)) σ2) (lsub_c rfl (lsub_c rfl (lsub_c rfl (lsub_c rfl lsub_n))))
set_option maxRecDepth 20000 in
set_option maxHeartbeats 1000000 in
theorem b_X6_ticks {K : Kt}  (hO : Ok K cX6_ticks RX6 4 rm_X6_ticks) (hR : Rt K (some .int))  (a1 : Int32) (σ : Wd) : Cm K 4 (0, 0) (f_X6_ticks a1 σ) σ 0 [(0, .ref (K.G.A 0)), (1, .int a1)] [] := by
  refine r_aload_n (i := 0) hO rfl rfl dX6_ticks_0 ?_
  refine r_iconst hO ci_1 dX6_ticks_1 ?_
  refine r_iload_n (i := 1) hO rfl rfl dX6_ticks_2 ?_
  refine r_iconst hO ci_1 dX6_ticks_3 ?_
  refine r_sipush hO si_200 dX6_ticks_4 ?_
  refine k_X6_within hO a_316 rfl ⟨rfl, rfl, Nat.le_refl _, Nat.le_refl _⟩ dX6_ticks_7 ?_
  intro r1 σ2
  refine r_aload_n (i := 0) hO rfl rfl dX6_ticks_10 ?_
  refine gX6_51 hO dX6_ticks_11 ?_
  refine gX6_213 hO iR63 dX6_ticks_14 ?_
  refine k_X6_granted hO a_317 rfl ⟨rfl, rfl, Nat.le_refl _, Nat.le_refl _⟩ dX6_ticks_17 ?_
  intro r3 σ4
  refine r_if_ne (tgt := 25) hO dX6_ticks_20 (by decide) ?_ ?_
  · refine r_iconst hO ci_m1 dX6_ticks_23 ?_
    exact r_iret hO hR dX6_ticks_24
  · refine r_aload_n (i := 0) hO rfl rfl dX6_ticks_25 ?_
    refine gX6_51 hO dX6_ticks_26 ?_
    refine gX6_282 hO iR63 dX6_ticks_29 ?_
    refine r_istore_n (i := 2) hO rfl rfl rfl dX6_ticks_32 ?_
    refine r_iconst hO ci_0 dX6_ticks_33 ?_
    refine r_istore_n (i := 3) hO rfl rfl rfl dX6_ticks_34 ?_
    exact r_jmp (b_X6_ticks_35 hO hR FU a1 (σ4.1 63 3) (0 : Int32) σ4) (lsub_c rfl (lsub_c rfl (lsub_c rfl (lsub_c rfl lsub_n))))
theorem c_X6_ticks {l : Launch} {G : Gh}   (a1 : Int32) (σ : Wd) : Con l G yX6_ticks cX6_ticks 4 (some .int) 6 152 [.ref (G.A 0), .int a1] σ (f_X6_ticks a1 σ) := Con.of (plainFor_of_name (by decide)) rfl (Nat.le_of_ble_eq_true rfl) (fun K hl hG hO hR => by subst hl; subst hG; exact b_X6_ticks hO hR  a1 σ)
theorem cal_X6_ticks : CalV yX6_ticks cX6_ticks 4 (some .int) 1 := ⟨a_442, a_443, a_444, a_2, by decide, by decide, by decide +kernel⟩
theorem k_X6_ticks {K : Kt} {nL : Nat} {cs : Nat × Nat} {σ : Wd} {pc : Nat} {lv : List (Nat × Value)} {st : List Value} {cc : ByteArray} {own : String} {rm : Room} {index : Nat} {g : Int32 → Wd → Option (Int32 × Wd)} {a1 : Int32} (hO : Ok K cc own nL rm)  (hl : Cond.methodLink own index yX6_ticks ∈ gtb) (hcat : Nat.ble ((st.map fun v => v.category).sum) 8 = true) (hR : RoomOk rm cs 6 152 4) (d : decode cc pc = .ok (.invokevirtual index, 3)) (kk : ∀ (r : Int32) (σ : Wd), Cm K nL cs (g r σ) σ (pc + 3) lv (.int r :: st)) : Cm K nL cs (bd (f_X6_ticks a1 σ) g) σ pc lv (.int a1 :: .ref (K.G.A 0) :: st) := r_cVi hO (c_X6_ticks  a1 σ) cal_X6_ticks hl rfl (by decide) ent_X6 rfl rfl hcat hR d kk
/-! OrderSplit.call -/
def f_X6_call_31   (x1 : Int32) (s1 : Int32) (s2 : Int32) (s3 : Int32) (σ : Wd) : Option (Int32 × Wd) := bd (f_X6_granted s1 s2 s3 σ) fun r1 σ2 => if r1 = 0 then (some ((-1 : Int32), σ2)) else (gd (bM (σ2.2.2 0 4)) (gd (inb x1 5) (gd (inb x1 5) (nmW (wi σ2 71 (ix x1) ((σ2.1 63 1) + (σ2.1 ((σ2.2.2 0 4) + 5) (ix x1)))) fun σ4 => gd (inb x1 5) (some (σ4.1 71 (ix x1), σ4))))))
def f_X6_call_30   (x1 : Int32) (s1 : Int32) (s2 : Int32) (σ : Wd) : Option (Int32 × Wd) := (f_X6_call_31 x1 s1 s2 (0 : Int32) σ)
def f_X6_call (a1 : Int32) (σ : Wd) : Option (Int32 × Wd) := bd (f_X6_isVenue a1 σ) fun r1 σ2 => bd (f_X6_isVenue a1 σ2) fun r3 σ4 => if r3 = 0 then (f_X6_call_30 a1 r1 (1 : Int32) σ4) else (bd (f_X4_canBeCalled 63 a1 σ4) fun r5 σ6 => if r5 = 0 then (f_X6_call_30 a1 r1 (1 : Int32) σ6) else (f_X6_call_31 a1 r1 (1 : Int32) (1 : Int32) σ6))
set_option maxRecDepth 20000 in
set_option maxHeartbeats 1000000 in
theorem b_X6_call_31 {K : Kt}   (hO : Ok K cX6_call RX6 2 rm_X6_call) (hR : Rt K (some .int))   (x1 : Int32) (s1 : Int32) (s2 : Int32) (s3 : Int32) (σ : Wd)  : Cm K 2 (0, 0) (f_X6_call_31  x1 s1 s2 s3 σ) σ 31 [(0, .ref (K.G.A 0)), (1, .int x1)] [.int s3, .int s2, .int s1, .ref (K.G.A 0)] := by
  refine k_X6_granted hO a_317 rfl ⟨rfl, rfl, Nat.le_refl _, Nat.le_refl _⟩ dX6_call_31 ?_
  intro r1 σ2
  refine r_if_ne (tgt := 39) hO dX6_call_34 (by decide) ?_ ?_
  · refine r_iconst hO ci_m1 dX6_call_37 ?_
    exact r_iret hO hR dX6_call_38
  · refine r_aload_n (i := 0) hO rfl rfl dX6_call_39 ?_
    refine gX6_51 hO dX6_call_40 ?_
    refine gX6_288 hO iR63 dX6_call_43 ?_
    refine r_iload_n (i := 1) hO rfl rfl dX6_call_46 ?_
    refine r_aload_n (i := 0) hO rfl rfl dX6_call_47 ?_
    refine gX6_51 hO dX6_call_48 ?_
    refine gX6_291 hO iR63 dX6_call_51 ?_
    refine r_aload_n (i := 0) hO rfl rfl dX6_call_54 ?_
    refine r_gd fun h3 => ?_
    refine gX6_39 hO dX6_call_55 ?_
    refine gX6_136 hO (bM_is h3) dX6_call_58 ?_
    refine r_iload_n (i := 1) hO rfl rfl dX6_call_61 ?_
    refine r_iald hO (sM_5 (bM_is h3)) dX6_call_62 ?_
    refine r_iadd hO dX6_call_63 ?_
    refine r_iast hO (sR_8 iR63) dX6_call_64 ?_
    refine r_nmW fun σ4 => ?_
    refine r_aload_n (i := 0) hO rfl rfl dX6_call_65 ?_
    refine gX6_51 hO dX6_call_66 ?_
    refine gX6_288 hO iR63 dX6_call_69 ?_
    refine r_iload_n (i := 1) hO rfl rfl dX6_call_72 ?_
    refine r_iald hO (sR_8 iR63) dX6_call_73 ?_
    exact r_iret hO hR dX6_call_74
set_option maxRecDepth 20000 in
set_option maxHeartbeats 1000000 in
theorem b_X6_call_30 {K : Kt}   (hO : Ok K cX6_call RX6 2 rm_X6_call) (hR : Rt K (some .int))   (x1 : Int32) (s1 : Int32) (s2 : Int32) (σ : Wd)  : Cm K 2 (0, 0) (f_X6_call_30  x1 s1 s2 σ) σ 30 [(0, .ref (K.G.A 0)), (1, .int x1)] [.int s2, .int s1, .ref (K.G.A 0)] := by
  refine r_iconst hO ci_0 dX6_call_30 ?_
  exact r_jmp (b_X6_call_31 hO hR x1 s1 s2 (0 : Int32) σ) (lsub_c rfl (lsub_c rfl lsub_n))
set_option maxRecDepth 20000 in
set_option maxHeartbeats 1000000 in
theorem b_X6_call {K : Kt}  (hO : Ok K cX6_call RX6 2 rm_X6_call) (hR : Rt K (some .int))  (a1 : Int32) (σ : Wd) : Cm K 2 (0, 0) (f_X6_call a1 σ) σ 0 [(0, .ref (K.G.A 0)), (1, .int a1)] [] := by
  refine r_aload_n (i := 0) hO rfl rfl dX6_call_0 ?_
  refine r_aload_n (i := 0) hO rfl rfl dX6_call_1 ?_
  refine r_iload_n (i := 1) hO rfl rfl dX6_call_2 ?_
  refine k_X6_isVenue hO a_324 rfl ⟨rfl, rfl, Nat.le_refl _, Nat.le_refl _⟩ dX6_call_3 ?_
  intro r1 σ2
  refine r_iconst hO ci_1 dX6_call_6 ?_
  refine r_aload_n (i := 0) hO rfl rfl dX6_call_7 ?_
  refine r_iload_n (i := 1) hO rfl rfl dX6_call_8 ?_
  refine k_X6_isVenue hO a_324 rfl ⟨rfl, rfl, Nat.le_refl _, Nat.le_refl _⟩ dX6_call_9 ?_
  intro r3 σ4
  refine r_if_eq (tgt := 30) hO dX6_call_12 (by decide) ?_ ?_
  · exact r_jmp (b_X6_call_30 hO hR a1 r1 (1 : Int32) σ4) (lsub_c rfl (lsub_c rfl lsub_n))
  · refine r_aload_n (i := 0) hO rfl rfl dX6_call_15 ?_
    refine gX6_51 hO dX6_call_16 ?_
    refine r_iload_n (i := 1) hO rfl rfl dX6_call_19 ?_
    refine k_X4_canBeCalled hO iR63 a_445 rfl ⟨rfl, rfl, Nat.le_refl _, Nat.le_refl _⟩ dX6_call_20 ?_
    intro r5 σ6
    refine r_if_eq (tgt := 30) hO dX6_call_23 (by decide) ?_ ?_
    · exact r_jmp (b_X6_call_30 hO hR a1 r1 (1 : Int32) σ6) (lsub_c rfl (lsub_c rfl lsub_n))
    · refine r_iconst hO ci_1 dX6_call_26 ?_
      refine r_goto (tgt := 31) hO dX6_call_27 (by decide) ?_
      exact r_jmp (b_X6_call_31 hO hR a1 r1 (1 : Int32) (1 : Int32) σ6) (lsub_c rfl (lsub_c rfl lsub_n))
theorem c_X6_call {l : Launch} {G : Gh}   (a1 : Int32) (σ : Wd) : Con l G yX6_call cX6_call 2 (some .int) 1 23 [.ref (G.A 0), .int a1] σ (f_X6_call a1 σ) := Con.of (plainFor_of_name (by decide)) rfl (Nat.le_of_ble_eq_true rfl) (fun K hl hG hO hR => by subst hl; subst hG; exact b_X6_call hO hR  a1 σ)
theorem cal_X6_call : CalV yX6_call cX6_call 2 (some .int) 1 := ⟨a_446, a_447, a_448, a_2, by decide, by decide, by decide +kernel⟩
theorem k_X6_call {K : Kt} {nL : Nat} {cs : Nat × Nat} {σ : Wd} {pc : Nat} {lv : List (Nat × Value)} {st : List Value} {cc : ByteArray} {own : String} {rm : Room} {index : Nat} {g : Int32 → Wd → Option (Int32 × Wd)} {a1 : Int32} (hO : Ok K cc own nL rm)  (hl : Cond.methodLink own index yX6_call ∈ gtb) (hcat : Nat.ble ((st.map fun v => v.category).sum) 8 = true) (hR : RoomOk rm cs 1 23 2) (d : decode cc pc = .ok (.invokevirtual index, 3)) (kk : ∀ (r : Int32) (σ : Wd), Cm K nL cs (g r σ) σ (pc + 3) lv (.int r :: st)) : Cm K nL cs (bd (f_X6_call a1 σ) g) σ pc lv (.int a1 :: .ref (K.G.A 0) :: st) := r_cVi hO (c_X6_call  a1 σ) cal_X6_call hl rfl (by decide) ent_X6 rfl rfl hcat hR d kk
/-! OrderSplit.keep -/
def f_X6_keep  (σ : Wd) : Option (Int32 × Wd) := bd (f_X6_granted (1 : Int32) (1 : Int32) (1 : Int32) σ) fun r1 σ2 => if r1 = 0 then (gd (isb (0 : Int32)) (some ((0 : Int32), σ2))) else (gd (bM (σ2.2.2 0 4)) (bd (f_X3_copyFrom 37 (σ2.2.2 0 4) σ2) fun _ σ4 => bd (f_X4_copyFrom 76 63 σ4) fun _ σ5 => gd (isb (1 : Int32)) (nmW (wi σ5 0 11 (1 : Int32)) fun σ6 => gd (isb (1 : Int32)) (some ((1 : Int32), σ6)))))
set_option maxRecDepth 20000 in
set_option maxHeartbeats 1000000 in
theorem b_X6_keep {K : Kt}  (hO : Ok K cX6_keep RX6 1 rm_X6_keep) (hR : Rt K (some .boolean))   (σ : Wd) : Cm K 1 (0, 0) (f_X6_keep  σ) σ 0 [(0, .ref (K.G.A 0))] [] := by
  refine r_aload_n (i := 0) hO rfl rfl dX6_keep_0 ?_
  refine r_iconst hO ci_1 dX6_keep_1 ?_
  refine r_iconst hO ci_1 dX6_keep_2 ?_
  refine r_iconst hO ci_1 dX6_keep_3 ?_
  refine k_X6_granted hO a_317 rfl ⟨rfl, rfl, Nat.le_refl _, Nat.le_refl _⟩ dX6_keep_4 ?_
  intro r1 σ2
  refine r_if_ne (tgt := 12) hO dX6_keep_7 (by decide) ?_ ?_
  · refine r_iconst hO ci_0 dX6_keep_10 ?_
    exact r_zret hO hR dX6_keep_11
  · refine r_aload_n (i := 0) hO rfl rfl dX6_keep_12 ?_
    refine gX6_42 hO dX6_keep_13 ?_
    refine r_aload_n (i := 0) hO rfl rfl dX6_keep_16 ?_
    refine r_gd fun h3 => ?_
    refine gX6_39 hO dX6_keep_17 ?_
    refine k_X3_copyFrom hO iM37 (bM_is h3) a_419 rfl ⟨rfl, rfl, Nat.le_refl _, Nat.le_refl _⟩ dX6_keep_20 ?_
    intro _ σ4
    refine r_aload_n (i := 0) hO rfl rfl dX6_keep_23 ?_
    refine gX6_55 hO dX6_keep_24 ?_
    refine r_aload_n (i := 0) hO rfl rfl dX6_keep_27 ?_
    refine gX6_51 hO dX6_keep_28 ?_
    refine k_X4_copyFrom hO iR76 iR63 a_420 rfl ⟨rfl, rfl, Nat.le_refl _, Nat.le_refl _⟩ dX6_keep_31 ?_
    intro _ σ5
    refine r_aload_n (i := 0) hO rfl rfl dX6_keep_34 ?_
    refine r_iconst hO ci_1 dX6_keep_35 ?_
    refine pX6_65 hO dX6_keep_36 ?_
    refine r_nmW fun σ6 => ?_
    refine r_iconst hO ci_1 dX6_keep_39 ?_
    exact r_zret hO hR dX6_keep_40
theorem c_X6_keep {l : Launch} {G : Gh}    (σ : Wd) : Con l G yX6_keep cX6_keep 1 (some .boolean) 3 68 [.ref (G.A 0)] σ (f_X6_keep  σ) := Con.of (plainFor_of_name (by decide)) rfl (Nat.le_of_ble_eq_true rfl) (fun K hl hG hO hR => by subst hl; subst hG; exact b_X6_keep hO hR   σ)
theorem cal_X6_keep : CalV yX6_keep cX6_keep 1 (some .boolean) 0 := ⟨a_449, a_450, a_451, a_2, by decide, by decide, by decide +kernel⟩
theorem k_X6_keep {K : Kt} {nL : Nat} {cs : Nat × Nat} {σ : Wd} {pc : Nat} {lv : List (Nat × Value)} {st : List Value} {cc : ByteArray} {own : String} {rm : Room} {index : Nat} {g : Int32 → Wd → Option (Int32 × Wd)}  (hO : Ok K cc own nL rm)  (hl : Cond.methodLink own index yX6_keep ∈ gtb) (hcat : Nat.ble ((st.map fun v => v.category).sum) 8 = true) (hR : RoomOk rm cs 3 68 1) (d : decode cc pc = .ok (.invokevirtual index, 3)) (kk : ∀ (r : Int32) (σ : Wd), Cm K nL cs (g r σ) σ (pc + 3) lv (.int r :: st)) : Cm K nL cs (bd (f_X6_keep  σ) g) σ pc lv (.ref (K.G.A 0) :: st) := r_cVi hO (c_X6_keep   σ) cal_X6_keep hl rfl (by decide) ent_X6 rfl rfl hcat hR d kk
/-! OrderSplit.back -/
def f_X6_back  (σ : Wd) : Option (Int32 × Wd) := bd (f_X6_granted (σ.1 0 11) (1 : Int32) (1 : Int32) σ) fun r1 σ2 => if r1 = 0 then (gd (isb (0 : Int32)) (some ((0 : Int32), σ2))) else (gd (bM (σ2.2.2 0 4)) (bd (f_X3_copyFrom (σ2.2.2 0 4) 37 σ2) fun _ σ4 => bd (f_X4_copyFrom 63 76 σ4) fun _ σ5 => gd (isb (1 : Int32)) (some ((1 : Int32), σ5))))
set_option maxRecDepth 20000 in
set_option maxHeartbeats 1000000 in
theorem b_X6_back {K : Kt}  (hO : Ok K cX6_back RX6 1 rm_X6_back) (hR : Rt K (some .boolean))   (σ : Wd) : Cm K 1 (0, 0) (f_X6_back  σ) σ 0 [(0, .ref (K.G.A 0))] [] := by
  refine r_aload_n (i := 0) hO rfl rfl dX6_back_0 ?_
  refine r_aload_n (i := 0) hO rfl rfl dX6_back_1 ?_
  refine gX6_65 hO dX6_back_2 ?_
  refine r_iconst hO ci_1 dX6_back_5 ?_
  refine r_iconst hO ci_1 dX6_back_6 ?_
  refine k_X6_granted hO a_317 rfl ⟨rfl, rfl, Nat.le_refl _, Nat.le_refl _⟩ dX6_back_7 ?_
  intro r1 σ2
  refine r_if_ne (tgt := 15) hO dX6_back_10 (by decide) ?_ ?_
  · refine r_iconst hO ci_0 dX6_back_13 ?_
    exact r_zret hO hR dX6_back_14
  · refine r_aload_n (i := 0) hO rfl rfl dX6_back_15 ?_
    refine r_gd fun h3 => ?_
    refine gX6_39 hO dX6_back_16 ?_
    refine r_aload_n (i := 0) hO rfl rfl dX6_back_19 ?_
    refine gX6_42 hO dX6_back_20 ?_
    refine k_X3_copyFrom hO (bM_is h3) iM37 a_419 rfl ⟨rfl, rfl, Nat.le_refl _, Nat.le_refl _⟩ dX6_back_23 ?_
    intro _ σ4
    refine r_aload_n (i := 0) hO rfl rfl dX6_back_26 ?_
    refine gX6_51 hO dX6_back_27 ?_
    refine r_aload_n (i := 0) hO rfl rfl dX6_back_30 ?_
    refine gX6_55 hO dX6_back_31 ?_
    refine k_X4_copyFrom hO iR63 iR76 a_420 rfl ⟨rfl, rfl, Nat.le_refl _, Nat.le_refl _⟩ dX6_back_34 ?_
    intro _ σ5
    refine r_iconst hO ci_1 dX6_back_37 ?_
    exact r_zret hO hR dX6_back_38
theorem c_X6_back {l : Launch} {G : Gh}    (σ : Wd) : Con l G yX6_back cX6_back 1 (some .boolean) 3 68 [.ref (G.A 0)] σ (f_X6_back  σ) := Con.of (plainFor_of_name (by decide)) rfl (Nat.le_of_ble_eq_true rfl) (fun K hl hG hO hR => by subst hl; subst hG; exact b_X6_back hO hR   σ)
theorem cal_X6_back : CalV yX6_back cX6_back 1 (some .boolean) 0 := ⟨a_452, a_453, a_454, a_2, by decide, by decide, by decide +kernel⟩
theorem k_X6_back {K : Kt} {nL : Nat} {cs : Nat × Nat} {σ : Wd} {pc : Nat} {lv : List (Nat × Value)} {st : List Value} {cc : ByteArray} {own : String} {rm : Room} {index : Nat} {g : Int32 → Wd → Option (Int32 × Wd)}  (hO : Ok K cc own nL rm)  (hl : Cond.methodLink own index yX6_back ∈ gtb) (hcat : Nat.ble ((st.map fun v => v.category).sum) 8 = true) (hR : RoomOk rm cs 3 68 1) (d : decode cc pc = .ok (.invokevirtual index, 3)) (kk : ∀ (r : Int32) (σ : Wd), Cm K nL cs (g r σ) σ (pc + 3) lv (.int r :: st)) : Cm K nL cs (bd (f_X6_back  σ) g) σ pc lv (.ref (K.G.A 0) :: st) := r_cVi hO (c_X6_back   σ) cal_X6_back hl rfl (by decide) ent_X6 rfl rfl hcat hR d kk
/-! OrderSplit.size -/
def f_X6_size_48   (s0 : Int32) (σ : Wd) : Option (Int32 × Wd) := some (s0, σ)
def f_X6_size_64   (s0 : Int32) (σ : Wd) : Option (Int32 × Wd) := some (s0, σ)
def f_X6_size (a1 : Int32) (σ : Wd) : Option (Int32 × Wd) := if a1 = (0 : Int32) then (some (σ.1 1 0, σ)) else (if a1 = (1 : Int32) then (if (σ.1 0 11) = 0 then (f_X6_size_48 (0 : Int32) σ) else (f_X6_size_48 (1 : Int32) σ)) else (if a1 = (2 : Int32) then (if (σ.1 63 0) = 0 then (f_X6_size_64 (0 : Int32) σ) else (f_X6_size_64 (1 : Int32) σ)) else (some ((-1 : Int32), σ))))
set_option maxRecDepth 20000 in
set_option maxHeartbeats 1000000 in
theorem b_X6_size_48 {K : Kt}   (hO : Ok K cX6_size RX6 2 rm_X6_size) (hR : Rt K (some .int))   (s0 : Int32) (σ : Wd)  : Cm K 2 (0, 0) (f_X6_size_48  s0 σ) σ 48 [] [.int s0] := by
  exact r_iret hO hR dX6_size_48
set_option maxRecDepth 20000 in
set_option maxHeartbeats 1000000 in
theorem b_X6_size_64 {K : Kt}   (hO : Ok K cX6_size RX6 2 rm_X6_size) (hR : Rt K (some .int))   (s0 : Int32) (σ : Wd)  : Cm K 2 (0, 0) (f_X6_size_64  s0 σ) σ 64 [] [.int s0] := by
  exact r_iret hO hR dX6_size_64
set_option maxRecDepth 20000 in
set_option maxHeartbeats 1000000 in
theorem b_X6_size {K : Kt}  (hO : Ok K cX6_size RX6 2 rm_X6_size) (hR : Rt K (some .int))  (a1 : Int32) (σ : Wd) : Cm K 2 (0, 0) (f_X6_size a1 σ) σ 0 [(0, .ref (K.G.A 0)), (1, .int a1)] [] := by
  refine r_iload_n (i := 1) hO rfl rfl dX6_size_0 ?_
  refine r_if (fun hc => ?_) (fun hc0 => ?_)
  · refine r_tsI (tgt := 28) hO dX6_size_1 hc (by decide) (by decide) rfl (by decide) ?_
    refine r_aload_n (i := 0) hO rfl rfl dX6_size_28 ?_
    refine gX6_12 hO dX6_size_29 ?_
    refine gX6_75 hO dX6_size_32 ?_
    exact r_iret hO hR dX6_size_35
  · refine r_if (fun hc => ?_) (fun hc1 => ?_)
    · refine r_tsI (tgt := 36) hO dX6_size_1 hc (by decide) (by decide) rfl (by decide) ?_
      refine r_aload_n (i := 0) hO rfl rfl dX6_size_36 ?_
      refine gX6_65 hO dX6_size_37 ?_
      refine r_if_eq (tgt := 47) hO dX6_size_40 (by decide) ?_ ?_
      · refine r_iconst hO ci_0 dX6_size_47 ?_
        exact r_jmp (b_X6_size_48 hO hR (0 : Int32) σ) lsub_n
      · refine r_iconst hO ci_1 dX6_size_43 ?_
        refine r_goto (tgt := 48) hO dX6_size_44 (by decide) ?_
        exact r_jmp (b_X6_size_48 hO hR (1 : Int32) σ) lsub_n
    · refine r_if (fun hc => ?_) (fun hc2 => ?_)
      · refine r_tsI (tgt := 49) hO dX6_size_1 hc (by decide) (by decide) rfl (by decide) ?_
        refine r_aload_n (i := 0) hO rfl rfl dX6_size_49 ?_
        refine gX6_51 hO dX6_size_50 ?_
        refine gX6_213 hO iR63 dX6_size_53 ?_
        refine r_if_eq (tgt := 63) hO dX6_size_56 (by decide) ?_ ?_
        · refine r_iconst hO ci_0 dX6_size_63 ?_
          exact r_jmp (b_X6_size_64 hO hR (0 : Int32) σ) lsub_n
        · refine r_iconst hO ci_1 dX6_size_59 ?_
          refine r_goto (tgt := 64) hO dX6_size_60 (by decide) ?_
          exact r_jmp (b_X6_size_64 hO hR (1 : Int32) σ) lsub_n
      · have h_0 := ne_i (n := 0) hc0 rfl
        have h_1 := ne_i (n := 1) hc1 rfl
        have h_2 := ne_i (n := 2) hc2 rfl
        refine r_tsO (tgt := 65) hO dX6_size_1 (by omega) (by decide) ?_
        refine r_iconst hO ci_m1 dX6_size_65 ?_
        exact r_iret hO hR dX6_size_66
theorem c_X6_size {l : Launch} {G : Gh}   (a1 : Int32) (σ : Wd) : Con l G yX6_size cX6_size 2 (some .int) 0 0 [.ref (G.A 0), .int a1] σ (f_X6_size a1 σ) := Con.of (plainFor_of_name (by decide)) rfl (Nat.le_of_ble_eq_true rfl) (fun K hl hG hO hR => by subst hl; subst hG; exact b_X6_size hO hR  a1 σ)
theorem cal_X6_size : CalV yX6_size cX6_size 2 (some .int) 1 := ⟨a_455, a_456, a_457, a_2, by decide, by decide, by decide +kernel⟩
theorem k_X6_size {K : Kt} {nL : Nat} {cs : Nat × Nat} {σ : Wd} {pc : Nat} {lv : List (Nat × Value)} {st : List Value} {cc : ByteArray} {own : String} {rm : Room} {index : Nat} {g : Int32 → Wd → Option (Int32 × Wd)} {a1 : Int32} (hO : Ok K cc own nL rm)  (hl : Cond.methodLink own index yX6_size ∈ gtb) (hcat : Nat.ble ((st.map fun v => v.category).sum) 8 = true) (hR : RoomOk rm cs 0 0 2) (d : decode cc pc = .ok (.invokevirtual index, 3)) (kk : ∀ (r : Int32) (σ : Wd), Cm K nL cs (g r σ) σ (pc + 3) lv (.int r :: st)) : Cm K nL cs (bd (f_X6_size a1 σ) g) σ pc lv (.int a1 :: .ref (K.G.A 0) :: st) := r_cVi hO (c_X6_size  a1 σ) cal_X6_size hl rfl (by decide) ent_X6 rfl rfl hcat hR d kk
/-! OrderSplit.trouble -/
def f_X6_trouble  (σ : Wd) : Option (Int32 × Wd) := some (σ.1 0 12, σ)
set_option maxRecDepth 20000 in
set_option maxHeartbeats 1000000 in
theorem b_X6_trouble {K : Kt}  (hO : Ok K cX6_trouble RX6 1 rm_X6_trouble) (hR : Rt K (some .int))   (σ : Wd) : Cm K 1 (0, 0) (f_X6_trouble  σ) σ 0 [(0, .ref (K.G.A 0))] [] := by
  refine r_aload_n (i := 0) hO rfl rfl dX6_trouble_0 ?_
  refine gX6_68 hO dX6_trouble_1 ?_
  exact r_iret hO hR dX6_trouble_4
theorem c_X6_trouble {l : Launch} {G : Gh}    (σ : Wd) : Con l G yX6_trouble cX6_trouble 1 (some .int) 0 0 [.ref (G.A 0)] σ (f_X6_trouble  σ) := Con.of (plainFor_of_name (by decide)) rfl (Nat.le_of_ble_eq_true rfl) (fun K hl hG hO hR => by subst hl; subst hG; exact b_X6_trouble hO hR   σ)
theorem cal_X6_trouble : CalV yX6_trouble cX6_trouble 1 (some .int) 0 := ⟨a_458, a_459, a_460, a_2, by decide, by decide, by decide +kernel⟩
theorem k_X6_trouble {K : Kt} {nL : Nat} {cs : Nat × Nat} {σ : Wd} {pc : Nat} {lv : List (Nat × Value)} {st : List Value} {cc : ByteArray} {own : String} {rm : Room} {index : Nat} {g : Int32 → Wd → Option (Int32 × Wd)}  (hO : Ok K cc own nL rm)  (hl : Cond.methodLink own index yX6_trouble ∈ gtb) (hcat : Nat.ble ((st.map fun v => v.category).sum) 8 = true) (hR : RoomOk rm cs 0 0 1) (d : decode cc pc = .ok (.invokevirtual index, 3)) (kk : ∀ (r : Int32) (σ : Wd), Cm K nL cs (g r σ) σ (pc + 3) lv (.int r :: st)) : Cm K nL cs (bd (f_X6_trouble  σ) g) σ pc lv (.ref (K.G.A 0) :: st) := r_cVi hO (c_X6_trouble   σ) cal_X6_trouble hl rfl (by decide) ent_X6 rfl rfl hcat hR d kk

/-! OrderSplitModel.fault -/
def f_X7_fault  (σ : Wd) : Option (Int32 × Wd) := nmW (wi σ 102 0 (0 : Int32)) fun σ1 => some (σ1.1 102 33, σ1)
set_option maxRecDepth 20000 in
set_option maxHeartbeats 1000000 in
theorem b_X7_fault {K : Kt}  (hO : Ok K cX7_fault RX7 1 rm_X7_fault) (hR : Rt K (some .int))   (σ : Wd) : Cm K 1 (0, 0) (f_X7_fault  σ) σ 0 [(0, .ref (K.G.A 102))] [] := by
  refine r_aload_n (i := 0) hO rfl rfl dX7_fault_0 ?_
  refine r_iconst hO ci_0 dX7_fault_1 ?_
  refine pX7_70 hO dX7_fault_2 ?_
  refine r_nmW fun σ1 => ?_
  refine r_aload_n (i := 0) hO rfl rfl dX7_fault_5 ?_
  refine gX7_84 hO dX7_fault_6 ?_
  exact r_iret hO hR dX7_fault_9
theorem c_X7_fault {l : Launch} {G : Gh}    (σ : Wd) : Con l G yX7_fault cX7_fault 1 (some .int) 0 0 [.ref (G.A 102)] σ (f_X7_fault  σ) := Con.of (plainFor_of_name (by decide)) rfl (Nat.le_of_ble_eq_true rfl) (fun K hl hG hO hR => by subst hl; subst hG; exact b_X7_fault hO hR   σ)
theorem cal_X7_fault : CalV yX7_fault cX7_fault 1 (some .int) 0 := ⟨a_596, a_597, a_598, a_464, by decide, by decide, by decide +kernel⟩
theorem k_X7_fault {K : Kt} {nL : Nat} {cs : Nat × Nat} {σ : Wd} {pc : Nat} {lv : List (Nat × Value)} {st : List Value} {cc : ByteArray} {own : String} {rm : Room} {index : Nat} {g : Int32 → Wd → Option (Int32 × Wd)}  (hO : Ok K cc own nL rm)  (hl : Cond.methodLink own index yX7_fault ∈ gtb) (hcat : Nat.ble ((st.map fun v => v.category).sum) 8 = true) (hR : RoomOk rm cs 0 0 1) (d : decode cc pc = .ok (.invokevirtual index, 3)) (kk : ∀ (r : Int32) (σ : Wd), Cm K nL cs (g r σ) σ (pc + 3) lv (.int r :: st)) : Cm K nL cs (bd (f_X7_fault  σ) g) σ pc lv (.ref (K.G.A 102) :: st) := r_cVi hO (c_X7_fault   σ) cal_X7_fault hl rfl (by decide) ent_X7 rfl rfl hcat hR d kk
/-! OrderSplitModel.where -/
def f_X7_where  (σ : Wd) : Option (Int32 × Wd) := nmW (wi σ 102 0 (0 : Int32)) fun σ1 => some (σ1.1 102 2, σ1)
set_option maxRecDepth 20000 in
set_option maxHeartbeats 1000000 in
theorem b_X7_where {K : Kt}  (hO : Ok K cX7_where RX7 1 rm_X7_where) (hR : Rt K (some .int))   (σ : Wd) : Cm K 1 (0, 0) (f_X7_where  σ) σ 0 [(0, .ref (K.G.A 102))] [] := by
  refine r_aload_n (i := 0) hO rfl rfl dX7_where_0 ?_
  refine r_iconst hO ci_0 dX7_where_1 ?_
  refine pX7_70 hO dX7_where_2 ?_
  refine r_nmW fun σ1 => ?_
  refine r_aload_n (i := 0) hO rfl rfl dX7_where_5 ?_
  refine gX7_11 hO dX7_where_6 ?_
  exact r_iret hO hR dX7_where_9
theorem c_X7_where {l : Launch} {G : Gh}    (σ : Wd) : Con l G yX7_where cX7_where 1 (some .int) 0 0 [.ref (G.A 102)] σ (f_X7_where  σ) := Con.of (plainFor_of_name (by decide)) rfl (Nat.le_of_ble_eq_true rfl) (fun K hl hG hO hR => by subst hl; subst hG; exact b_X7_where hO hR   σ)
theorem cal_X7_where : CalV yX7_where cX7_where 1 (some .int) 0 := ⟨a_599, a_600, a_601, a_464, by decide, by decide, by decide +kernel⟩
theorem k_X7_where {K : Kt} {nL : Nat} {cs : Nat × Nat} {σ : Wd} {pc : Nat} {lv : List (Nat × Value)} {st : List Value} {cc : ByteArray} {own : String} {rm : Room} {index : Nat} {g : Int32 → Wd → Option (Int32 × Wd)}  (hO : Ok K cc own nL rm)  (hl : Cond.methodLink own index yX7_where ∈ gtb) (hcat : Nat.ble ((st.map fun v => v.category).sum) 8 = true) (hR : RoomOk rm cs 0 0 1) (d : decode cc pc = .ok (.invokevirtual index, 3)) (kk : ∀ (r : Int32) (σ : Wd), Cm K nL cs (g r σ) σ (pc + 3) lv (.int r :: st)) : Cm K nL cs (bd (f_X7_where  σ) g) σ pc lv (.ref (K.G.A 102) :: st) := r_cVi hO (c_X7_where   σ) cal_X7_where hl rfl (by decide) ent_X7 rfl rfl hcat hR d kk
/-! OrderSplitModel.about -/
def f_X7_about (a1 : Int32) (σ : Wd) : Option (Int32 × Wd) := nmW (wi σ 102 0 (0 : Int32)) fun σ1 => if (σ1.1 102 21) = 0 then (bd (f_X7_refused (1 : Int32) σ1) fun r2 σ3 => some (r2, σ3)) else (if a1 = (0 : Int32) then (gd (inb (35 : Int32) 179) (bd (f_X7_good (σ1.1 112 (ix (35 : Int32))) σ1) fun r4 σ5 => some (r4, σ5))) else (if a1 = (1 : Int32) then (bd (f_X7_good (σ1.1 102 12) σ1) fun r6 σ7 => some (r6, σ7)) else (if a1 = (2 : Int32) then (bd (f_X7_good (σ1.1 102 13) σ1) fun r8 σ9 => some (r8, σ9)) else (if a1 = (3 : Int32) then (bd (f_X7_good (σ1.1 102 14) σ1) fun r10 σ11 => some (r10, σ11)) else (if a1 = (4 : Int32) then (bd (f_X7_good (σ1.1 102 15) σ1) fun r12 σ13 => some (r12, σ13)) else (bd (f_X7_refused (1 : Int32) σ1) fun r14 σ15 => some (r14, σ15)))))))
set_option maxRecDepth 20000 in
set_option maxHeartbeats 1000000 in
theorem b_X7_about {K : Kt}  (hO : Ok K cX7_about RX7 2 rm_X7_about) (hR : Rt K (some .int))  (a1 : Int32) (σ : Wd) : Cm K 2 (0, 0) (f_X7_about a1 σ) σ 0 [(0, .ref (K.G.A 102)), (1, .int a1)] [] := by
  refine r_aload_n (i := 0) hO rfl rfl dX7_about_0 ?_
  refine r_iconst hO ci_0 dX7_about_1 ?_
  refine pX7_70 hO dX7_about_2 ?_
  refine r_nmW fun σ1 => ?_
  refine r_aload_n (i := 0) hO rfl rfl dX7_about_5 ?_
  refine gX7_241 hO dX7_about_6 ?_
  refine r_if_ne (tgt := 18) hO dX7_about_9 (by decide) ?_ ?_
  · refine r_aload_n (i := 0) hO rfl rfl dX7_about_12 ?_
    refine r_iconst hO ci_1 dX7_about_13 ?_
    refine k_X7_refused hO a_465 rfl ⟨rfl, rfl, Nat.le_refl _, Nat.le_refl _⟩ dX7_about_14 ?_
    intro r2 σ3
    exact r_iret hO hR dX7_about_17
  · refine r_iload_n (i := 1) hO rfl rfl dX7_about_18 ?_
    refine r_if (fun hc => ?_) (fun hc0 => ?_)
    · refine r_tsI (tgt := 52) hO dX7_about_19 hc (by decide) (by decide) rfl (by decide) ?_
      refine r_aload_n (i := 0) hO rfl rfl dX7_about_52 ?_
      refine r_aload_n (i := 0) hO rfl rfl dX7_about_53 ?_
      refine gX7_44 hO dX7_about_54 ?_
      refine r_bipush hO bi_35 dX7_about_57 ?_
      refine r_iald hO s_112 dX7_about_59 ?_
      refine k_X7_good hO a_592 rfl ⟨rfl, rfl, Nat.le_refl _, Nat.le_refl _⟩ dX7_about_60 ?_
      intro r4 σ5
      exact r_iret hO hR dX7_about_63
    · refine r_if (fun hc => ?_) (fun hc1 => ?_)
      · refine r_tsI (tgt := 64) hO dX7_about_19 hc (by decide) (by decide) rfl (by decide) ?_
        refine r_aload_n (i := 0) hO rfl rfl dX7_about_64 ?_
        refine r_aload_n (i := 0) hO rfl rfl dX7_about_65 ?_
        refine gX7_248 hO dX7_about_66 ?_
        refine k_X7_good hO a_592 rfl ⟨rfl, rfl, Nat.le_refl _, Nat.le_refl _⟩ dX7_about_69 ?_
        intro r6 σ7
        exact r_iret hO hR dX7_about_72
      · refine r_if (fun hc => ?_) (fun hc2 => ?_)
        · refine r_tsI (tgt := 73) hO dX7_about_19 hc (by decide) (by decide) rfl (by decide) ?_
          refine r_aload_n (i := 0) hO rfl rfl dX7_about_73 ?_
          refine r_aload_n (i := 0) hO rfl rfl dX7_about_74 ?_
          refine gX7_250 hO dX7_about_75 ?_
          refine k_X7_good hO a_592 rfl ⟨rfl, rfl, Nat.le_refl _, Nat.le_refl _⟩ dX7_about_78 ?_
          intro r8 σ9
          exact r_iret hO hR dX7_about_81
        · refine r_if (fun hc => ?_) (fun hc3 => ?_)
          · refine r_tsI (tgt := 82) hO dX7_about_19 hc (by decide) (by decide) rfl (by decide) ?_
            refine r_aload_n (i := 0) hO rfl rfl dX7_about_82 ?_
            refine r_aload_n (i := 0) hO rfl rfl dX7_about_83 ?_
            refine gX7_235 hO dX7_about_84 ?_
            refine k_X7_good hO a_592 rfl ⟨rfl, rfl, Nat.le_refl _, Nat.le_refl _⟩ dX7_about_87 ?_
            intro r10 σ11
            exact r_iret hO hR dX7_about_90
          · refine r_if (fun hc => ?_) (fun hc4 => ?_)
            · refine r_tsI (tgt := 91) hO dX7_about_19 hc (by decide) (by decide) rfl (by decide) ?_
              refine r_aload_n (i := 0) hO rfl rfl dX7_about_91 ?_
              refine r_aload_n (i := 0) hO rfl rfl dX7_about_92 ?_
              refine gX7_252 hO dX7_about_93 ?_
              refine k_X7_good hO a_592 rfl ⟨rfl, rfl, Nat.le_refl _, Nat.le_refl _⟩ dX7_about_96 ?_
              intro r12 σ13
              exact r_iret hO hR dX7_about_99
            · have h_0 := ne_i (n := 0) hc0 rfl
              have h_1 := ne_i (n := 1) hc1 rfl
              have h_2 := ne_i (n := 2) hc2 rfl
              have h_3 := ne_i (n := 3) hc3 rfl
              have h_4 := ne_i (n := 4) hc4 rfl
              refine r_tsO (tgt := 100) hO dX7_about_19 (by omega) (by decide) ?_
              refine r_aload_n (i := 0) hO rfl rfl dX7_about_100 ?_
              refine r_iconst hO ci_1 dX7_about_101 ?_
              refine k_X7_refused hO a_465 rfl ⟨rfl, rfl, Nat.le_refl _, Nat.le_refl _⟩ dX7_about_102 ?_
              intro r14 σ15
              exact r_iret hO hR dX7_about_105
theorem c_X7_about {l : Launch} {G : Gh}   (a1 : Int32) (σ : Wd) : Con l G yX7_about cX7_about 2 (some .int) 1 21 [.ref (G.A 102), .int a1] σ (f_X7_about a1 σ) := Con.of (plainFor_of_name (by decide)) rfl (Nat.le_of_ble_eq_true rfl) (fun K hl hG hO hR => by subst hl; subst hG; exact b_X7_about hO hR  a1 σ)
theorem cal_X7_about : CalV yX7_about cX7_about 2 (some .int) 1 := ⟨a_602, a_603, a_604, a_464, by decide, by decide, by decide +kernel⟩
theorem k_X7_about {K : Kt} {nL : Nat} {cs : Nat × Nat} {σ : Wd} {pc : Nat} {lv : List (Nat × Value)} {st : List Value} {cc : ByteArray} {own : String} {rm : Room} {index : Nat} {g : Int32 → Wd → Option (Int32 × Wd)} {a1 : Int32} (hO : Ok K cc own nL rm)  (hl : Cond.methodLink own index yX7_about ∈ gtb) (hcat : Nat.ble ((st.map fun v => v.category).sum) 8 = true) (hR : RoomOk rm cs 1 21 2) (d : decode cc pc = .ok (.invokevirtual index, 3)) (kk : ∀ (r : Int32) (σ : Wd), Cm K nL cs (g r σ) σ (pc + 3) lv (.int r :: st)) : Cm K nL cs (bd (f_X7_about a1 σ) g) σ pc lv (.int a1 :: .ref (K.G.A 102) :: st) := r_cVi hO (c_X7_about  a1 σ) cal_X7_about hl rfl (by decide) ent_X7 rfl rfl hcat hR d kk
/-! OrderSplitModel.isVenue -/
def f_X7_isVenue_26   (s0 : Int32) (σ : Wd) : Option (Int32 × Wd) := gd (isb s0) (some (s0, σ))
def f_X7_isVenue_25    (σ : Wd) : Option (Int32 × Wd) := (f_X7_isVenue_26 (0 : Int32) σ)
def f_X7_isVenue (a1 : Int32) (σ : Wd) : Option (Int32 × Wd) := if (σ.1 102 21) = 0 then (f_X7_isVenue_25 σ) else (bd (f_X7_in a1 (0 : Int32) ((σ.1 102 14) - (1 : Int32)) σ) fun r1 σ2 => if r1 = 0 then (f_X7_isVenue_25 σ2) else (f_X7_isVenue_26 (1 : Int32) σ2))
set_option maxRecDepth 20000 in
set_option maxHeartbeats 1000000 in
theorem b_X7_isVenue_26 {K : Kt}   (hO : Ok K cX7_isVenue RX7 2 rm_X7_isVenue) (hR : Rt K (some .boolean))   (s0 : Int32) (σ : Wd)  : Cm K 2 (0, 0) (f_X7_isVenue_26  s0 σ) σ 26 [] [.int s0] := by
  exact r_zret hO hR dX7_isVenue_26
set_option maxRecDepth 20000 in
set_option maxHeartbeats 1000000 in
theorem b_X7_isVenue_25 {K : Kt}   (hO : Ok K cX7_isVenue RX7 2 rm_X7_isVenue) (hR : Rt K (some .boolean))    (σ : Wd)  : Cm K 2 (0, 0) (f_X7_isVenue_25   σ) σ 25 [] [] := by
  refine r_iconst hO ci_0 dX7_isVenue_25 ?_
  exact r_jmp (b_X7_isVenue_26 hO hR (0 : Int32) σ) lsub_n
set_option maxRecDepth 20000 in
set_option maxHeartbeats 1000000 in
theorem b_X7_isVenue {K : Kt}  (hO : Ok K cX7_isVenue RX7 2 rm_X7_isVenue) (hR : Rt K (some .boolean))  (a1 : Int32) (σ : Wd) : Cm K 2 (0, 0) (f_X7_isVenue a1 σ) σ 0 [(0, .ref (K.G.A 102)), (1, .int a1)] [] := by
  refine r_aload_n (i := 0) hO rfl rfl dX7_isVenue_0 ?_
  refine gX7_241 hO dX7_isVenue_1 ?_
  refine r_if_eq (tgt := 25) hO dX7_isVenue_4 (by decide) ?_ ?_
  · exact r_jmp (b_X7_isVenue_25 hO hR σ) lsub_n
  · refine r_iload_n (i := 1) hO rfl rfl dX7_isVenue_7 ?_
    refine r_iconst hO ci_0 dX7_isVenue_8 ?_
    refine r_aload_n (i := 0) hO rfl rfl dX7_isVenue_9 ?_
    refine gX7_235 hO dX7_isVenue_10 ?_
    refine r_iconst hO ci_1 dX7_isVenue_13 ?_
    refine r_isub hO dX7_isVenue_14 ?_
    refine k_X7_in hO a_483 rfl ⟨rfl, rfl, Nat.le_refl _, Nat.le_refl _⟩ dX7_isVenue_15 ?_
    intro r1 σ2
    refine r_if_eq (tgt := 25) hO dX7_isVenue_18 (by decide) ?_ ?_
    · exact r_jmp (b_X7_isVenue_25 hO hR σ2) lsub_n
    · refine r_iconst hO ci_1 dX7_isVenue_21 ?_
      refine r_goto (tgt := 26) hO dX7_isVenue_22 (by decide) ?_
      exact r_jmp (b_X7_isVenue_26 hO hR (1 : Int32) σ2) lsub_n
theorem c_X7_isVenue {l : Launch} {G : Gh}   (a1 : Int32) (σ : Wd) : Con l G yX7_isVenue cX7_isVenue 2 (some .boolean) 1 22 [.ref (G.A 102), .int a1] σ (f_X7_isVenue a1 σ) := Con.of (plainFor_of_name (by decide)) rfl (Nat.le_of_ble_eq_true rfl) (fun K hl hG hO hR => by subst hl; subst hG; exact b_X7_isVenue hO hR  a1 σ)
theorem cal_X7_isVenue : CalV yX7_isVenue cX7_isVenue 2 (some .boolean) 1 := ⟨a_605, a_606, a_607, a_464, by decide, by decide, by decide +kernel⟩
theorem k_X7_isVenue {K : Kt} {nL : Nat} {cs : Nat × Nat} {σ : Wd} {pc : Nat} {lv : List (Nat × Value)} {st : List Value} {cc : ByteArray} {own : String} {rm : Room} {index : Nat} {g : Int32 → Wd → Option (Int32 × Wd)} {a1 : Int32} (hO : Ok K cc own nL rm)  (hl : Cond.methodLink own index yX7_isVenue ∈ gtb) (hcat : Nat.ble ((st.map fun v => v.category).sum) 8 = true) (hR : RoomOk rm cs 1 22 2) (d : decode cc pc = .ok (.invokevirtual index, 3)) (kk : ∀ (r : Int32) (σ : Wd), Cm K nL cs (g r σ) σ (pc + 3) lv (.int r :: st)) : Cm K nL cs (bd (f_X7_isVenue a1 σ) g) σ pc lv (.int a1 :: .ref (K.G.A 102) :: st) := r_cVi hO (c_X7_isVenue  a1 σ) cal_X7_isVenue hl rfl (by decide) ent_X7 rfl rfl hcat hR d kk
/-! OrderSplitModel.lot -/
def f_X7_lot (a1 : Int32) (σ : Wd) : Option (Int32 × Wd) := bd (f_X7_told a1 (1 : Int32) σ) fun r1 σ2 => some (r1, σ2)
set_option maxRecDepth 20000 in
set_option maxHeartbeats 1000000 in
theorem b_X7_lot {K : Kt}  (hO : Ok K cX7_lot RX7 2 rm_X7_lot) (hR : Rt K (some .int))  (a1 : Int32) (σ : Wd) : Cm K 2 (0, 0) (f_X7_lot a1 σ) σ 0 [(0, .ref (K.G.A 102)), (1, .int a1)] [] := by
  refine r_aload_n (i := 0) hO rfl rfl dX7_lot_0 ?_
  refine r_iload_n (i := 1) hO rfl rfl dX7_lot_1 ?_
  refine r_iconst hO ci_1 dX7_lot_2 ?_
  refine k_X7_told hO a_575 rfl ⟨rfl, rfl, Nat.le_refl _, Nat.le_refl _⟩ dX7_lot_3 ?_
  intro r1 σ2
  exact r_iret hO hR dX7_lot_6
theorem c_X7_lot {l : Launch} {G : Gh}   (a1 : Int32) (σ : Wd) : Con l G yX7_lot cX7_lot 2 (some .int) 1 22 [.ref (G.A 102), .int a1] σ (f_X7_lot a1 σ) := Con.of (plainFor_of_name (by decide)) rfl (Nat.le_of_ble_eq_true rfl) (fun K hl hG hO hR => by subst hl; subst hG; exact b_X7_lot hO hR  a1 σ)
theorem cal_X7_lot : CalV yX7_lot cX7_lot 2 (some .int) 1 := ⟨a_608, a_609, a_610, a_464, by decide, by decide, by decide +kernel⟩
theorem k_X7_lot {K : Kt} {nL : Nat} {cs : Nat × Nat} {σ : Wd} {pc : Nat} {lv : List (Nat × Value)} {st : List Value} {cc : ByteArray} {own : String} {rm : Room} {index : Nat} {g : Int32 → Wd → Option (Int32 × Wd)} {a1 : Int32} (hO : Ok K cc own nL rm)  (hl : Cond.methodLink own index yX7_lot ∈ gtb) (hcat : Nat.ble ((st.map fun v => v.category).sum) 8 = true) (hR : RoomOk rm cs 1 22 2) (d : decode cc pc = .ok (.invokevirtual index, 3)) (kk : ∀ (r : Int32) (σ : Wd), Cm K nL cs (g r σ) σ (pc + 3) lv (.int r :: st)) : Cm K nL cs (bd (f_X7_lot a1 σ) g) σ pc lv (.int a1 :: .ref (K.G.A 102) :: st) := r_cVi hO (c_X7_lot  a1 σ) cal_X7_lot hl rfl (by decide) ent_X7 rfl rfl hcat hR d kk
/-! OrderSplitModel.priceOf -/
def f_X7_priceOf (a1 : Int32) (a2 : Int32) (σ : Wd) : Option (Int32 × Wd) := gd (inb (((6 : Int32) * a1) + a2) 30) (some (σ.1 104 (ix (((6 : Int32) * a1) + a2)), σ))
set_option maxRecDepth 20000 in
set_option maxHeartbeats 1000000 in
theorem b_X7_priceOf {K : Kt}  (hO : Ok K cX7_priceOf RX7 3 rm_X7_priceOf) (hR : Rt K (some .int))  (a1 : Int32) (a2 : Int32) (σ : Wd) : Cm K 3 (0, 0) (f_X7_priceOf a1 a2 σ) σ 0 [(0, .ref (K.G.A 102)), (1, .int a1), (2, .int a2)] [] := by
  refine r_aload_n (i := 0) hO rfl rfl dX7_priceOf_0 ?_
  refine gX7_19 hO dX7_priceOf_1 ?_
  refine r_bipush hO bi_6 dX7_priceOf_4 ?_
  refine r_iload_n (i := 1) hO rfl rfl dX7_priceOf_6 ?_
  refine r_imul hO dX7_priceOf_7 ?_
  refine r_iload_n (i := 2) hO rfl rfl dX7_priceOf_8 ?_
  refine r_iadd hO dX7_priceOf_9 ?_
  refine r_iald hO s_104 dX7_priceOf_10 ?_
  exact r_iret hO hR dX7_priceOf_11
theorem c_X7_priceOf {l : Launch} {G : Gh}   (a1 : Int32) (a2 : Int32) (σ : Wd) : Con l G yX7_priceOf cX7_priceOf 3 (some .int) 0 0 [.ref (G.A 102), .int a1, .int a2] σ (f_X7_priceOf a1 a2 σ) := Con.of (plainFor_of_name (by decide)) rfl (Nat.le_of_ble_eq_true rfl) (fun K hl hG hO hR => by subst hl; subst hG; exact b_X7_priceOf hO hR  a1 a2 σ)
theorem cal_X7_priceOf : CalV yX7_priceOf cX7_priceOf 3 (some .int) 2 := ⟨a_611, a_612, a_613, a_464, by decide, by decide, by decide +kernel⟩
theorem k_X7_priceOf {K : Kt} {nL : Nat} {cs : Nat × Nat} {σ : Wd} {pc : Nat} {lv : List (Nat × Value)} {st : List Value} {cc : ByteArray} {own : String} {rm : Room} {index : Nat} {g : Int32 → Wd → Option (Int32 × Wd)} {a1 : Int32} {a2 : Int32} (hO : Ok K cc own nL rm)  (hl : Cond.methodLink own index yX7_priceOf ∈ gtb) (hcat : Nat.ble ((st.map fun v => v.category).sum) 8 = true) (hR : RoomOk rm cs 0 0 3) (d : decode cc pc = .ok (.invokevirtual index, 3)) (kk : ∀ (r : Int32) (σ : Wd), Cm K nL cs (g r σ) σ (pc + 3) lv (.int r :: st)) : Cm K nL cs (bd (f_X7_priceOf a1 a2 σ) g) σ pc lv (.int a2 :: .int a1 :: .ref (K.G.A 102) :: st) := r_cVi hO (c_X7_priceOf  a1 a2 σ) cal_X7_priceOf hl rfl (by decide) ent_X7 rfl rfl hcat hR d kk
/-! OrderSplitModel.sizeOf -/
def f_X7_sizeOf (a1 : Int32) (a2 : Int32) (σ : Wd) : Option (Int32 × Wd) := gd (inb (((0 : Int32) + ((6 : Int32) * a1)) + a2) 179) (some (σ.1 112 (ix (((0 : Int32) + ((6 : Int32) * a1)) + a2)), σ))
set_option maxRecDepth 20000 in
set_option maxHeartbeats 1000000 in
theorem b_X7_sizeOf {K : Kt}  (hO : Ok K cX7_sizeOf RX7 3 rm_X7_sizeOf) (hR : Rt K (some .int))  (a1 : Int32) (a2 : Int32) (σ : Wd) : Cm K 3 (0, 0) (f_X7_sizeOf a1 a2 σ) σ 0 [(0, .ref (K.G.A 102)), (1, .int a1), (2, .int a2)] [] := by
  refine r_aload_n (i := 0) hO rfl rfl dX7_sizeOf_0 ?_
  refine gX7_44 hO dX7_sizeOf_1 ?_
  refine r_iconst hO ci_0 dX7_sizeOf_4 ?_
  refine r_bipush hO bi_6 dX7_sizeOf_5 ?_
  refine r_iload_n (i := 1) hO rfl rfl dX7_sizeOf_7 ?_
  refine r_imul hO dX7_sizeOf_8 ?_
  refine r_iadd hO dX7_sizeOf_9 ?_
  refine r_iload_n (i := 2) hO rfl rfl dX7_sizeOf_10 ?_
  refine r_iadd hO dX7_sizeOf_11 ?_
  refine r_iald hO s_112 dX7_sizeOf_12 ?_
  exact r_iret hO hR dX7_sizeOf_13
theorem c_X7_sizeOf {l : Launch} {G : Gh}   (a1 : Int32) (a2 : Int32) (σ : Wd) : Con l G yX7_sizeOf cX7_sizeOf 3 (some .int) 0 0 [.ref (G.A 102), .int a1, .int a2] σ (f_X7_sizeOf a1 a2 σ) := Con.of (plainFor_of_name (by decide)) rfl (Nat.le_of_ble_eq_true rfl) (fun K hl hG hO hR => by subst hl; subst hG; exact b_X7_sizeOf hO hR  a1 a2 σ)
theorem cal_X7_sizeOf : CalV yX7_sizeOf cX7_sizeOf 3 (some .int) 2 := ⟨a_614, a_615, a_616, a_464, by decide, by decide, by decide +kernel⟩
theorem k_X7_sizeOf {K : Kt} {nL : Nat} {cs : Nat × Nat} {σ : Wd} {pc : Nat} {lv : List (Nat × Value)} {st : List Value} {cc : ByteArray} {own : String} {rm : Room} {index : Nat} {g : Int32 → Wd → Option (Int32 × Wd)} {a1 : Int32} {a2 : Int32} (hO : Ok K cc own nL rm)  (hl : Cond.methodLink own index yX7_sizeOf ∈ gtb) (hcat : Nat.ble ((st.map fun v => v.category).sum) 8 = true) (hR : RoomOk rm cs 0 0 3) (d : decode cc pc = .ok (.invokevirtual index, 3)) (kk : ∀ (r : Int32) (σ : Wd), Cm K nL cs (g r σ) σ (pc + 3) lv (.int r :: st)) : Cm K nL cs (bd (f_X7_sizeOf a1 a2 σ) g) σ pc lv (.int a2 :: .int a1 :: .ref (K.G.A 102) :: st) := r_cVi hO (c_X7_sizeOf  a1 a2 σ) cal_X7_sizeOf hl rfl (by decide) ent_X7 rfl rfl hcat hR d kk
/-! OrderSplitModel.unitsTo -/
def f_X7_unitsTo_38  (k5 : Int32 → Int32 → Int32 → Int32 → Wd → Option (Int32 × Wd)) (x1 : Int32) (x2 : Int32) (x4 : Int32) (s0 : Int32) (s1 : Int32) (σ : Wd) : Option (Int32 × Wd) := (k5 x1 x2 (s0 + s1) (x4 + (1 : Int32)) σ)
def f_X7_unitsTo_5   : Nat → Int32 → Int32 → Int32 → Int32 → Wd → Option (Int32 × Wd)
  | 0 => fun _ _ _ _ _ => none
  | n + 1 => fun x1 x2 x3 x4 σ => bd (f_X7_levels x1 σ) fun r1 σ2 => if r1 ≤ x4 then (some (x3, σ2)) else (bd (f_X7_priceOf x1 x4 σ2) fun r3 σ4 => if x2 < r3 then (f_X7_unitsTo_38 (f_X7_unitsTo_5 n) x1 x2 x4 x3 (0 : Int32) σ4) else (bd (f_X7_sizeOf x1 x4 σ4) fun r5 σ6 => (f_X7_unitsTo_38 (f_X7_unitsTo_5 n) x1 x2 x4 x3 r5 σ6)))
def f_X7_unitsTo (a1 : Int32) (a2 : Int32) (σ : Wd) : Option (Int32 × Wd) := (f_X7_unitsTo_5 FU a1 a2 (0 : Int32) (0 : Int32) σ)
set_option maxRecDepth 20000 in
set_option maxHeartbeats 1000000 in
theorem b_X7_unitsTo_38 {K : Kt}  {k5 : Int32 → Int32 → Int32 → Int32 → Wd → Option (Int32 × Wd)} (hO : Ok K cX7_unitsTo RX7 5 rm_X7_unitsTo) (hR : Rt K (some .int))   (hk5 : ∀ (x1 : Int32) (x2 : Int32) (x3 : Int32) (x4 : Int32) (σ : Wd), Cm K 5 (0, 0) (k5 x1 x2 x3 x4 σ) σ 5 [(0, .ref (K.G.A 102)), (1, .int x1), (2, .int x2), (3, .int x3), (4, .int x4)] []) (x1 : Int32) (x2 : Int32) (x4 : Int32) (s0 : Int32) (s1 : Int32) (σ : Wd)  : Cm K 5 (0, 0) (f_X7_unitsTo_38 k5 x1 x2 x4 s0 s1 σ) σ 38 [(0, .ref (K.G.A 102)), (1, .int x1), (2, .int x2), (4, .int x4)] [.int s1, .int s0] := by
  refine r_iadd hO dX7_unitsTo_38 ?_
  refine r_istore_n (i := 3) hO rfl rfl rfl dX7_unitsTo_39 ?_
  refine r_iinc hO rfl ci_1 rfl rfl dX7_unitsTo_40 ?_
  refine r_goto (tgt := 5) hO dX7_unitsTo_43 (by decide) ?_
  exact r_jmp (hk5 x1 x2 (s0 + s1) (x4 + (1 : Int32)) σ) (lsub_c rfl (lsub_c rfl (lsub_c rfl (lsub_c rfl (lsub_c rfl lsub_n)))))
set_option maxRecDepth 20000 in
set_option maxHeartbeats 1000000 in
theorem b_X7_unitsTo_5 {K : Kt}   (hO : Ok K cX7_unitsTo RX7 5 rm_X7_unitsTo) (hR : Rt K (some .int))   : ∀ (n : Nat) (x1 : Int32) (x2 : Int32) (x3 : Int32) (x4 : Int32) (σ : Wd) , Cm K 5 (0, 0) (f_X7_unitsTo_5  n x1 x2 x3 x4 σ) σ 5 [(0, .ref (K.G.A 102)), (1, .int x1), (2, .int x2), (3, .int x3), (4, .int x4)] [] := by
  intro n
  induction n with
  | zero => intro x1 x2 x3 x4 σ ; exact r_none
  | succ n ih =>
    intro x1 x2 x3 x4 σ 
    refine r_iload hO (d := dX7_unitsTo_5) rfl ?_
    refine r_aload_n (i := 0) hO rfl rfl dX7_unitsTo_7 ?_
    refine r_iload_n (i := 1) hO rfl rfl dX7_unitsTo_8 ?_
    refine k_X7_levels hO a_585 rfl ⟨rfl, rfl, Nat.le_refl _, Nat.le_refl _⟩ dX7_unitsTo_9 ?_
    intro r1 σ2
    refine r_icmp_ge (tgt := 46) hO dX7_unitsTo_12 (by decide) ?_ ?_
    · refine r_iload_n (i := 3) hO rfl rfl dX7_unitsTo_46 ?_
      exact r_iret hO hR dX7_unitsTo_47
    · refine r_iload_n (i := 3) hO rfl rfl dX7_unitsTo_15 ?_
      refine r_aload_n (i := 0) hO rfl rfl dX7_unitsTo_16 ?_
      refine r_iload_n (i := 1) hO rfl rfl dX7_unitsTo_17 ?_
      refine r_iload hO (d := dX7_unitsTo_18) rfl ?_
      refine k_X7_priceOf hO a_617 rfl ⟨rfl, rfl, Nat.le_refl _, Nat.le_refl _⟩ dX7_unitsTo_20 ?_
      intro r3 σ4
      refine r_iload_n (i := 2) hO rfl rfl dX7_unitsTo_23 ?_
      refine r_icmp_gt (tgt := 37) hO dX7_unitsTo_24 (by decide) ?_ ?_
      · refine r_iconst hO ci_0 dX7_unitsTo_37 ?_
        exact r_jmp (b_X7_unitsTo_38 hO hR ih x1 x2 x4 x3 (0 : Int32) σ4) (lsub_c rfl (lsub_c rfl (lsub_c rfl (lsub_c rfl lsub_n))))
      · refine r_aload_n (i := 0) hO rfl rfl dX7_unitsTo_27 ?_
        refine r_iload_n (i := 1) hO rfl rfl dX7_unitsTo_28 ?_
        refine r_iload hO (d := dX7_unitsTo_29) rfl ?_
        refine k_X7_sizeOf hO a_618 rfl ⟨rfl, rfl, Nat.le_refl _, Nat.le_refl _⟩ dX7_unitsTo_31 ?_
        intro r5 σ6
        refine r_goto (tgt := 38) hO dX7_unitsTo_34 (by decide) ?_
        exact r_jmp (b_X7_unitsTo_38 hO hR ih x1 x2 x4 x3 r5 σ6) (lsub_c rfl (lsub_c rfl (lsub_c rfl (lsub_c rfl lsub_n))))
set_option maxRecDepth 20000 in
set_option maxHeartbeats 1000000 in
theorem b_X7_unitsTo {K : Kt}  (hO : Ok K cX7_unitsTo RX7 5 rm_X7_unitsTo) (hR : Rt K (some .int))  (a1 : Int32) (a2 : Int32) (σ : Wd) : Cm K 5 (0, 0) (f_X7_unitsTo a1 a2 σ) σ 0 [(0, .ref (K.G.A 102)), (1, .int a1), (2, .int a2)] [] := by
  refine r_iconst hO ci_0 dX7_unitsTo_0 ?_
  refine r_istore_n (i := 3) hO rfl rfl rfl dX7_unitsTo_1 ?_
  refine r_iconst hO ci_0 dX7_unitsTo_2 ?_
  refine r_istore hO rfl rfl dX7_unitsTo_3 ?_
  exact r_jmp (b_X7_unitsTo_5 hO hR FU a1 a2 (0 : Int32) (0 : Int32) σ) (lsub_c rfl (lsub_c rfl (lsub_c rfl (lsub_c rfl (lsub_c rfl lsub_n)))))
theorem c_X7_unitsTo {l : Launch} {G : Gh}   (a1 : Int32) (a2 : Int32) (σ : Wd) : Con l G yX7_unitsTo cX7_unitsTo 5 (some .int) 2 43 [.ref (G.A 102), .int a1, .int a2] σ (f_X7_unitsTo a1 a2 σ) := Con.of (plainFor_of_name (by decide)) rfl (Nat.le_of_ble_eq_true rfl) (fun K hl hG hO hR => by subst hl; subst hG; exact b_X7_unitsTo hO hR  a1 a2 σ)
theorem cal_X7_unitsTo : CalV yX7_unitsTo cX7_unitsTo 5 (some .int) 2 := ⟨a_619, a_620, a_621, a_464, by decide, by decide, by decide +kernel⟩
theorem k_X7_unitsTo {K : Kt} {nL : Nat} {cs : Nat × Nat} {σ : Wd} {pc : Nat} {lv : List (Nat × Value)} {st : List Value} {cc : ByteArray} {own : String} {rm : Room} {index : Nat} {g : Int32 → Wd → Option (Int32 × Wd)} {a1 : Int32} {a2 : Int32} (hO : Ok K cc own nL rm)  (hl : Cond.methodLink own index yX7_unitsTo ∈ gtb) (hcat : Nat.ble ((st.map fun v => v.category).sum) 8 = true) (hR : RoomOk rm cs 2 43 5) (d : decode cc pc = .ok (.invokevirtual index, 3)) (kk : ∀ (r : Int32) (σ : Wd), Cm K nL cs (g r σ) σ (pc + 3) lv (.int r :: st)) : Cm K nL cs (bd (f_X7_unitsTo a1 a2 σ) g) σ pc lv (.int a2 :: .int a1 :: .ref (K.G.A 102) :: st) := r_cVi hO (c_X7_unitsTo  a1 a2 σ) cal_X7_unitsTo hl rfl (by decide) ent_X7 rfl rfl hcat hR d kk
/-! OrderSplitModel.depth -/
def f_X7_depth (a1 : Int32) (σ : Wd) : Option (Int32 × Wd) := bd (f_X7_unitsTo a1 (σ.1 102 12) σ) fun r1 σ2 => some (r1, σ2)
set_option maxRecDepth 20000 in
set_option maxHeartbeats 1000000 in
theorem b_X7_depth {K : Kt}  (hO : Ok K cX7_depth RX7 2 rm_X7_depth) (hR : Rt K (some .int))  (a1 : Int32) (σ : Wd) : Cm K 2 (0, 0) (f_X7_depth a1 σ) σ 0 [(0, .ref (K.G.A 102)), (1, .int a1)] [] := by
  refine r_aload_n (i := 0) hO rfl rfl dX7_depth_0 ?_
  refine r_iload_n (i := 1) hO rfl rfl dX7_depth_1 ?_
  refine r_aload_n (i := 0) hO rfl rfl dX7_depth_2 ?_
  refine gX7_248 hO dX7_depth_3 ?_
  refine k_X7_unitsTo hO a_622 rfl ⟨rfl, rfl, Nat.le_refl _, Nat.le_refl _⟩ dX7_depth_6 ?_
  intro r1 σ2
  exact r_iret hO hR dX7_depth_9
theorem c_X7_depth {l : Launch} {G : Gh}   (a1 : Int32) (σ : Wd) : Con l G yX7_depth cX7_depth 2 (some .int) 3 67 [.ref (G.A 102), .int a1] σ (f_X7_depth a1 σ) := Con.of (plainFor_of_name (by decide)) rfl (Nat.le_of_ble_eq_true rfl) (fun K hl hG hO hR => by subst hl; subst hG; exact b_X7_depth hO hR  a1 σ)
theorem cal_X7_depth : CalV yX7_depth cX7_depth 2 (some .int) 1 := ⟨a_623, a_624, a_625, a_464, by decide, by decide, by decide +kernel⟩
theorem k_X7_depth {K : Kt} {nL : Nat} {cs : Nat × Nat} {σ : Wd} {pc : Nat} {lv : List (Nat × Value)} {st : List Value} {cc : ByteArray} {own : String} {rm : Room} {index : Nat} {g : Int32 → Wd → Option (Int32 × Wd)} {a1 : Int32} (hO : Ok K cc own nL rm)  (hl : Cond.methodLink own index yX7_depth ∈ gtb) (hcat : Nat.ble ((st.map fun v => v.category).sum) 8 = true) (hR : RoomOk rm cs 3 67 2) (d : decode cc pc = .ok (.invokevirtual index, 3)) (kk : ∀ (r : Int32) (σ : Wd), Cm K nL cs (g r σ) σ (pc + 3) lv (.int r :: st)) : Cm K nL cs (bd (f_X7_depth a1 σ) g) σ pc lv (.int a1 :: .ref (K.G.A 102) :: st) := r_cVi hO (c_X7_depth  a1 σ) cal_X7_depth hl rfl (by decide) ent_X7 rfl rfl hcat hR d kk
/-! OrderSplitModel.chargeOf -/
def f_X7_chargeOf_97   (s0 : Int32) (σ : Wd) : Option (Int32 × Wd) := some (s0, σ)
def f_X7_chargeOf_95   (x4 : Int32) (σ : Wd) : Option (Int32 × Wd) := (f_X7_chargeOf_97 x4 σ)
def f_X7_chargeOf_71   (x1 : Int32) (x3 : Int32) (x4 : Int32) (σ : Wd) : Option (Int32 × Wd) := if x3 < 0 then (f_X7_chargeOf_95 x4 σ) else (bd (f_X7_told x1 (2 : Int32) σ) fun r1 σ2 => if r1 ≤ x4 then (f_X7_chargeOf_95 x4 σ2) else (bd (f_X7_told x1 (2 : Int32) σ2) fun r3 σ4 => (f_X7_chargeOf_97 r3 σ4)))
def f_X7_chargeOf (a1 : Int32) (a2 : Int32) (σ : Wd) : Option (Int32 × Wd) := if a2 = 0 then (some ((0 : Int32), σ)) else (bd (f_X7_told a1 (0 : Int32) σ) fun r1 σ2 => if r1 = (2 : Int32) then (bd (f_X7_told a1 (2 : Int32) σ2) fun r3 σ4 => some (r3, σ4)) else (gd (inb ((30 : Int32) + a1) 179) (bd (f_X7_told a1 (0 : Int32) σ2) fun r5 σ6 => if r5 = (1 : Int32) then (if a2 ≤ (20 : Int32) then (f_X7_chargeOf_71 a1 (σ2.1 112 (ix ((30 : Int32) + a1))) ((σ2.1 112 (ix ((30 : Int32) + a1))) * a2) σ6) else (bd (f_X7_lower (σ2.1 112 (ix ((30 : Int32) + a1))) (2 : Int32) σ6) fun r7 σ8 => (f_X7_chargeOf_71 a1 (σ2.1 112 (ix ((30 : Int32) + a1))) (((σ2.1 112 (ix ((30 : Int32) + a1))) * (20 : Int32)) + (r7 * (a2 - (20 : Int32)))) σ8))) else (f_X7_chargeOf_71 a1 (σ2.1 112 (ix ((30 : Int32) + a1))) ((σ2.1 112 (ix ((30 : Int32) + a1))) * a2) σ6))))
set_option maxRecDepth 20000 in
set_option maxHeartbeats 1000000 in
theorem b_X7_chargeOf_97 {K : Kt}   (hO : Ok K cX7_chargeOf RX7 5 rm_X7_chargeOf) (hR : Rt K (some .int))   (s0 : Int32) (σ : Wd)  : Cm K 5 (0, 0) (f_X7_chargeOf_97  s0 σ) σ 97 [] [.int s0] := by
  exact r_iret hO hR dX7_chargeOf_97
set_option maxRecDepth 20000 in
set_option maxHeartbeats 1000000 in
theorem b_X7_chargeOf_95 {K : Kt}   (hO : Ok K cX7_chargeOf RX7 5 rm_X7_chargeOf) (hR : Rt K (some .int))   (x4 : Int32) (σ : Wd)  : Cm K 5 (0, 0) (f_X7_chargeOf_95  x4 σ) σ 95 [(4, .int x4)] [] := by
  refine r_iload hO (d := dX7_chargeOf_95) rfl ?_
  exact r_jmp (b_X7_chargeOf_97 hO hR x4 σ) lsub_n
set_option maxRecDepth 20000 in
set_option maxHeartbeats 1000000 in
theorem b_X7_chargeOf_71 {K : Kt}   (hO : Ok K cX7_chargeOf RX7 5 rm_X7_chargeOf) (hR : Rt K (some .int))   (x1 : Int32) (x3 : Int32) (x4 : Int32) (σ : Wd)  : Cm K 5 (0, 0) (f_X7_chargeOf_71  x1 x3 x4 σ) σ 71 [(0, .ref (K.G.A 102)), (1, .int x1), (3, .int x3), (4, .int x4)] [] := by
  refine r_iload_n (i := 3) hO rfl rfl dX7_chargeOf_71 ?_
  refine r_if_lt (tgt := 95) hO dX7_chargeOf_72 (by decide) ?_ ?_
  · exact r_jmp (b_X7_chargeOf_95 hO hR x4 σ) (lsub_c rfl lsub_n)
  · refine r_iload hO (d := dX7_chargeOf_75) rfl ?_
    refine r_aload_n (i := 0) hO rfl rfl dX7_chargeOf_77 ?_
    refine r_iload_n (i := 1) hO rfl rfl dX7_chargeOf_78 ?_
    refine r_iconst hO ci_2 dX7_chargeOf_79 ?_
    refine k_X7_told hO a_575 rfl ⟨rfl, rfl, Nat.le_refl _, Nat.le_refl _⟩ dX7_chargeOf_80 ?_
    intro r1 σ2
    refine r_icmp_ge (tgt := 95) hO dX7_chargeOf_83 (by decide) ?_ ?_
    · exact r_jmp (b_X7_chargeOf_95 hO hR x4 σ2) (lsub_c rfl lsub_n)
    · refine r_aload_n (i := 0) hO rfl rfl dX7_chargeOf_86 ?_
      refine r_iload_n (i := 1) hO rfl rfl dX7_chargeOf_87 ?_
      refine r_iconst hO ci_2 dX7_chargeOf_88 ?_
      refine k_X7_told hO a_575 rfl ⟨rfl, rfl, Nat.le_refl _, Nat.le_refl _⟩ dX7_chargeOf_89 ?_
      intro r3 σ4
      refine r_goto (tgt := 97) hO dX7_chargeOf_92 (by decide) ?_
      exact r_jmp (b_X7_chargeOf_97 hO hR r3 σ4) lsub_n
set_option maxRecDepth 20000 in
set_option maxHeartbeats 1000000 in
theorem b_X7_chargeOf {K : Kt}  (hO : Ok K cX7_chargeOf RX7 5 rm_X7_chargeOf) (hR : Rt K (some .int))  (a1 : Int32) (a2 : Int32) (σ : Wd) : Cm K 5 (0, 0) (f_X7_chargeOf a1 a2 σ) σ 0 [(0, .ref (K.G.A 102)), (1, .int a1), (2, .int a2)] [] := by
  refine r_iload_n (i := 2) hO rfl rfl dX7_chargeOf_0 ?_
  refine r_if_ne (tgt := 6) hO dX7_chargeOf_1 (by decide) ?_ ?_
  · refine r_iconst hO ci_0 dX7_chargeOf_4 ?_
    exact r_iret hO hR dX7_chargeOf_5
  · refine r_aload_n (i := 0) hO rfl rfl dX7_chargeOf_6 ?_
    refine r_iload_n (i := 1) hO rfl rfl dX7_chargeOf_7 ?_
    refine r_iconst hO ci_0 dX7_chargeOf_8 ?_
    refine k_X7_told hO a_575 rfl ⟨rfl, rfl, Nat.le_refl _, Nat.le_refl _⟩ dX7_chargeOf_9 ?_
    intro r1 σ2
    refine r_iconst hO ci_2 dX7_chargeOf_12 ?_
    refine r_icmp_ne (tgt := 23) hO dX7_chargeOf_13 (by decide) ?_ ?_
    · refine r_aload_n (i := 0) hO rfl rfl dX7_chargeOf_16 ?_
      refine r_iload_n (i := 1) hO rfl rfl dX7_chargeOf_17 ?_
      refine r_iconst hO ci_2 dX7_chargeOf_18 ?_
      refine k_X7_told hO a_575 rfl ⟨rfl, rfl, Nat.le_refl _, Nat.le_refl _⟩ dX7_chargeOf_19 ?_
      intro r3 σ4
      exact r_iret hO hR dX7_chargeOf_22
    · refine r_aload_n (i := 0) hO rfl rfl dX7_chargeOf_23 ?_
      refine gX7_44 hO dX7_chargeOf_24 ?_
      refine r_bipush hO bi_30 dX7_chargeOf_27 ?_
      refine r_iload_n (i := 1) hO rfl rfl dX7_chargeOf_29 ?_
      refine r_iadd hO dX7_chargeOf_30 ?_
      refine r_iald hO s_112 dX7_chargeOf_31 ?_
      refine r_istore_n (i := 3) hO rfl rfl rfl dX7_chargeOf_32 ?_
      refine r_iload_n (i := 3) hO rfl rfl dX7_chargeOf_33 ?_
      refine r_iload_n (i := 2) hO rfl rfl dX7_chargeOf_34 ?_
      refine r_imul hO dX7_chargeOf_35 ?_
      refine r_istore hO rfl rfl dX7_chargeOf_36 ?_
      refine r_aload_n (i := 0) hO rfl rfl dX7_chargeOf_38 ?_
      refine r_iload_n (i := 1) hO rfl rfl dX7_chargeOf_39 ?_
      refine r_iconst hO ci_0 dX7_chargeOf_40 ?_
      refine k_X7_told hO a_575 rfl ⟨rfl, rfl, Nat.le_refl _, Nat.le_refl _⟩ dX7_chargeOf_41 ?_
      intro r5 σ6
      refine r_iconst hO ci_1 dX7_chargeOf_44 ?_
      refine r_icmp_ne (tgt := 71) hO dX7_chargeOf_45 (by decide) ?_ ?_
      · refine r_iload_n (i := 2) hO rfl rfl dX7_chargeOf_48 ?_
        refine r_bipush hO bi_20 dX7_chargeOf_49 ?_
        refine r_icmp_le (tgt := 71) hO dX7_chargeOf_51 (by decide) ?_ ?_
        · exact r_jmp (b_X7_chargeOf_71 hO hR a1 (σ2.1 112 (ix ((30 : Int32) + a1))) ((σ2.1 112 (ix ((30 : Int32) + a1))) * a2) σ6) (lsub_c rfl (lsub_c rfl (lsub_c rfl (lsub_c rfl lsub_n))))
        · refine r_iload_n (i := 3) hO rfl rfl dX7_chargeOf_54 ?_
          refine r_bipush hO bi_20 dX7_chargeOf_55 ?_
          refine r_imul hO dX7_chargeOf_57 ?_
          refine r_iload_n (i := 3) hO rfl rfl dX7_chargeOf_58 ?_
          refine r_iconst hO ci_2 dX7_chargeOf_59 ?_
          refine k_X7_lower hO a_626 rfl ⟨rfl, rfl, Nat.le_refl _, Nat.le_refl _⟩ dX7_chargeOf_60 ?_
          intro r7 σ8
          refine r_iload_n (i := 2) hO rfl rfl dX7_chargeOf_63 ?_
          refine r_bipush hO bi_20 dX7_chargeOf_64 ?_
          refine r_isub hO dX7_chargeOf_66 ?_
          refine r_imul hO dX7_chargeOf_67 ?_
          refine r_iadd hO dX7_chargeOf_68 ?_
          refine r_istore hO rfl rfl dX7_chargeOf_69 ?_
          exact r_jmp (b_X7_chargeOf_71 hO hR a1 (σ2.1 112 (ix ((30 : Int32) + a1))) (((σ2.1 112 (ix ((30 : Int32) + a1))) * (20 : Int32)) + (r7 * (a2 - (20 : Int32)))) σ8) (lsub_c rfl (lsub_c rfl (lsub_c rfl (lsub_c rfl lsub_n))))
      · exact r_jmp (b_X7_chargeOf_71 hO hR a1 (σ2.1 112 (ix ((30 : Int32) + a1))) ((σ2.1 112 (ix ((30 : Int32) + a1))) * a2) σ6) (lsub_c rfl (lsub_c rfl (lsub_c rfl (lsub_c rfl lsub_n))))
theorem c_X7_chargeOf {l : Launch} {G : Gh}   (a1 : Int32) (a2 : Int32) (σ : Wd) : Con l G yX7_chargeOf cX7_chargeOf 5 (some .int) 1 22 [.ref (G.A 102), .int a1, .int a2] σ (f_X7_chargeOf a1 a2 σ) := Con.of (plainFor_of_name (by decide)) rfl (Nat.le_of_ble_eq_true rfl) (fun K hl hG hO hR => by subst hl; subst hG; exact b_X7_chargeOf hO hR  a1 a2 σ)
theorem cal_X7_chargeOf : CalV yX7_chargeOf cX7_chargeOf 5 (some .int) 2 := ⟨a_627, a_628, a_629, a_464, by decide, by decide, by decide +kernel⟩
theorem k_X7_chargeOf {K : Kt} {nL : Nat} {cs : Nat × Nat} {σ : Wd} {pc : Nat} {lv : List (Nat × Value)} {st : List Value} {cc : ByteArray} {own : String} {rm : Room} {index : Nat} {g : Int32 → Wd → Option (Int32 × Wd)} {a1 : Int32} {a2 : Int32} (hO : Ok K cc own nL rm)  (hl : Cond.methodLink own index yX7_chargeOf ∈ gtb) (hcat : Nat.ble ((st.map fun v => v.category).sum) 8 = true) (hR : RoomOk rm cs 1 22 5) (d : decode cc pc = .ok (.invokevirtual index, 3)) (kk : ∀ (r : Int32) (σ : Wd), Cm K nL cs (g r σ) σ (pc + 3) lv (.int r :: st)) : Cm K nL cs (bd (f_X7_chargeOf a1 a2 σ) g) σ pc lv (.int a2 :: .int a1 :: .ref (K.G.A 102) :: st) := r_cVi hO (c_X7_chargeOf  a1 a2 σ) cal_X7_chargeOf hl rfl (by decide) ent_X7 rfl rfl hcat hR d kk
/-! OrderSplitModel.pricesOf -/
def f_X7_pricesOf_44  (k8 : Int32 → Int32 → Int32 → Int32 → Wd → Option (Int32 × Wd)) (x1 : Int32) (x3 : Int32) (x4 : Int32) (x5 : Int32) (s0 : Int32) (σ : Wd) : Option (Int32 × Wd) := bd (f_X7_priceOf x1 x5 σ) fun r1 σ2 => (k8 x1 (x3 - s0) (x4 + (s0 * r1)) (x5 + (1 : Int32)) σ2)
def f_X7_pricesOf_72   (x4 : Int32) (σ : Wd) : Option (Int32 × Wd) := some (x4, σ)
def f_X7_pricesOf_8   : Nat → Int32 → Int32 → Int32 → Int32 → Wd → Option (Int32 × Wd)
  | 0 => fun _ _ _ _ _ => none
  | n + 1 => fun x1 x3 x4 x5 σ => bd (f_X7_levels x1 σ) fun r1 σ2 => if r1 ≤ x5 then (f_X7_pricesOf_72 x4 σ2) else (if x3 ≤ 0 then (f_X7_pricesOf_72 x4 σ2) else (bd (f_X7_sizeOf x1 x5 σ2) fun r3 σ4 => if r3 ≤ x3 then (bd (f_X7_sizeOf x1 x5 σ4) fun r5 σ6 => (f_X7_pricesOf_44 (f_X7_pricesOf_8 n) x1 x3 x4 x5 r5 σ6)) else (f_X7_pricesOf_44 (f_X7_pricesOf_8 n) x1 x3 x4 x5 x3 σ4)))
def f_X7_pricesOf (a1 : Int32) (a2 : Int32) (σ : Wd) : Option (Int32 × Wd) := (f_X7_pricesOf_8 FU a1 a2 (0 : Int32) (0 : Int32) σ)
set_option maxRecDepth 20000 in
set_option maxHeartbeats 1000000 in
theorem b_X7_pricesOf_44 {K : Kt}  {k8 : Int32 → Int32 → Int32 → Int32 → Wd → Option (Int32 × Wd)} (hO : Ok K cX7_pricesOf RX7 7 rm_X7_pricesOf) (hR : Rt K (some .int))   (hk8 : ∀ (x1 : Int32) (x3 : Int32) (x4 : Int32) (x5 : Int32) (σ : Wd), Cm K 7 (0, 0) (k8 x1 x3 x4 x5 σ) σ 8 [(0, .ref (K.G.A 102)), (1, .int x1), (3, .int x3), (4, .int x4), (5, .int x5)] []) (x1 : Int32) (x3 : Int32) (x4 : Int32) (x5 : Int32) (s0 : Int32) (σ : Wd)  : Cm K 7 (0, 0) (f_X7_pricesOf_44 k8 x1 x3 x4 x5 s0 σ) σ 44 [(0, .ref (K.G.A 102)), (1, .int x1), (3, .int x3), (4, .int x4), (5, .int x5)] [.int s0] := by
  refine r_istore hO rfl rfl dX7_pricesOf_44 ?_
  refine r_iload hO (d := dX7_pricesOf_46) rfl ?_
  refine r_iload hO (d := dX7_pricesOf_48) rfl ?_
  refine r_aload_n (i := 0) hO rfl rfl dX7_pricesOf_50 ?_
  refine r_iload_n (i := 1) hO rfl rfl dX7_pricesOf_51 ?_
  refine r_iload hO (d := dX7_pricesOf_52) rfl ?_
  refine k_X7_priceOf hO a_617 rfl ⟨rfl, rfl, Nat.le_refl _, Nat.le_refl _⟩ dX7_pricesOf_54 ?_
  intro r1 σ2
  refine r_imul hO dX7_pricesOf_57 ?_
  refine r_iadd hO dX7_pricesOf_58 ?_
  refine r_istore hO rfl rfl dX7_pricesOf_59 ?_
  refine r_iload_n (i := 3) hO rfl rfl dX7_pricesOf_61 ?_
  refine r_iload hO (d := dX7_pricesOf_62) rfl ?_
  refine r_isub hO dX7_pricesOf_64 ?_
  refine r_istore_n (i := 3) hO rfl rfl rfl dX7_pricesOf_65 ?_
  refine r_iinc hO rfl ci_1 rfl rfl dX7_pricesOf_66 ?_
  refine r_goto (tgt := 8) hO dX7_pricesOf_69 (by decide) ?_
  exact r_jmp (hk8 x1 (x3 - s0) (x4 + (s0 * r1)) (x5 + (1 : Int32)) σ2) (lsub_c rfl (lsub_c rfl (lsub_c rfl (lsub_c rfl (lsub_c rfl lsub_n)))))
set_option maxRecDepth 20000 in
set_option maxHeartbeats 1000000 in
theorem b_X7_pricesOf_72 {K : Kt}   (hO : Ok K cX7_pricesOf RX7 7 rm_X7_pricesOf) (hR : Rt K (some .int))   (x4 : Int32) (σ : Wd)  : Cm K 7 (0, 0) (f_X7_pricesOf_72  x4 σ) σ 72 [(4, .int x4)] [] := by
  refine r_iload hO (d := dX7_pricesOf_72) rfl ?_
  exact r_iret hO hR dX7_pricesOf_74
set_option maxRecDepth 20000 in
set_option maxHeartbeats 1000000 in
theorem b_X7_pricesOf_8 {K : Kt}   (hO : Ok K cX7_pricesOf RX7 7 rm_X7_pricesOf) (hR : Rt K (some .int))   : ∀ (n : Nat) (x1 : Int32) (x3 : Int32) (x4 : Int32) (x5 : Int32) (σ : Wd) , Cm K 7 (0, 0) (f_X7_pricesOf_8  n x1 x3 x4 x5 σ) σ 8 [(0, .ref (K.G.A 102)), (1, .int x1), (3, .int x3), (4, .int x4), (5, .int x5)] [] := by
  intro n
  induction n with
  | zero => intro x1 x3 x4 x5 σ ; exact r_none
  | succ n ih =>
    intro x1 x3 x4 x5 σ 
    refine r_iload hO (d := dX7_pricesOf_8) rfl ?_
    refine r_aload_n (i := 0) hO rfl rfl dX7_pricesOf_10 ?_
    refine r_iload_n (i := 1) hO rfl rfl dX7_pricesOf_11 ?_
    refine k_X7_levels hO a_585 rfl ⟨rfl, rfl, Nat.le_refl _, Nat.le_refl _⟩ dX7_pricesOf_12 ?_
    intro r1 σ2
    refine r_icmp_ge (tgt := 72) hO dX7_pricesOf_15 (by decide) ?_ ?_
    · exact r_jmp (b_X7_pricesOf_72 hO hR x4 σ2) (lsub_c rfl lsub_n)
    · refine r_iload_n (i := 3) hO rfl rfl dX7_pricesOf_18 ?_
      refine r_if_le (tgt := 72) hO dX7_pricesOf_19 (by decide) ?_ ?_
      · exact r_jmp (b_X7_pricesOf_72 hO hR x4 σ2) (lsub_c rfl lsub_n)
      · refine r_iload_n (i := 3) hO rfl rfl dX7_pricesOf_22 ?_
        refine r_aload_n (i := 0) hO rfl rfl dX7_pricesOf_23 ?_
        refine r_iload_n (i := 1) hO rfl rfl dX7_pricesOf_24 ?_
        refine r_iload hO (d := dX7_pricesOf_25) rfl ?_
        refine k_X7_sizeOf hO a_618 rfl ⟨rfl, rfl, Nat.le_refl _, Nat.le_refl _⟩ dX7_pricesOf_27 ?_
        intro r3 σ4
        refine r_icmp_ge (tgt := 37) hO dX7_pricesOf_30 (by decide) ?_ ?_
        · refine r_aload_n (i := 0) hO rfl rfl dX7_pricesOf_37 ?_
          refine r_iload_n (i := 1) hO rfl rfl dX7_pricesOf_38 ?_
          refine r_iload hO (d := dX7_pricesOf_39) rfl ?_
          refine k_X7_sizeOf hO a_618 rfl ⟨rfl, rfl, Nat.le_refl _, Nat.le_refl _⟩ dX7_pricesOf_41 ?_
          intro r5 σ6
          exact r_jmp (b_X7_pricesOf_44 hO hR ih x1 x3 x4 x5 r5 σ6) (lsub_c rfl (lsub_c rfl (lsub_c rfl (lsub_c rfl (lsub_c rfl lsub_n)))))
        · refine r_iload_n (i := 3) hO rfl rfl dX7_pricesOf_33 ?_
          refine r_goto (tgt := 44) hO dX7_pricesOf_34 (by decide) ?_
          exact r_jmp (b_X7_pricesOf_44 hO hR ih x1 x3 x4 x5 x3 σ4) (lsub_c rfl (lsub_c rfl (lsub_c rfl (lsub_c rfl (lsub_c rfl lsub_n)))))
set_option maxRecDepth 20000 in
set_option maxHeartbeats 1000000 in
theorem b_X7_pricesOf {K : Kt}  (hO : Ok K cX7_pricesOf RX7 7 rm_X7_pricesOf) (hR : Rt K (some .int))  (a1 : Int32) (a2 : Int32) (σ : Wd) : Cm K 7 (0, 0) (f_X7_pricesOf a1 a2 σ) σ 0 [(0, .ref (K.G.A 102)), (1, .int a1), (2, .int a2)] [] := by
  refine r_iload_n (i := 2) hO rfl rfl dX7_pricesOf_0 ?_
  refine r_istore_n (i := 3) hO rfl rfl rfl dX7_pricesOf_1 ?_
  refine r_iconst hO ci_0 dX7_pricesOf_2 ?_
  refine r_istore hO rfl rfl dX7_pricesOf_3 ?_
  refine r_iconst hO ci_0 dX7_pricesOf_5 ?_
  refine r_istore hO rfl rfl dX7_pricesOf_6 ?_
  exact r_jmp (b_X7_pricesOf_8 hO hR FU a1 a2 (0 : Int32) (0 : Int32) σ) (lsub_c rfl (lsub_c rfl (lsub_c rfl (lsub_c rfl (lsub_c rfl lsub_n)))))
theorem c_X7_pricesOf {l : Launch} {G : Gh}   (a1 : Int32) (a2 : Int32) (σ : Wd) : Con l G yX7_pricesOf cX7_pricesOf 7 (some .int) 2 43 [.ref (G.A 102), .int a1, .int a2] σ (f_X7_pricesOf a1 a2 σ) := Con.of (plainFor_of_name (by decide)) rfl (Nat.le_of_ble_eq_true rfl) (fun K hl hG hO hR => by subst hl; subst hG; exact b_X7_pricesOf hO hR  a1 a2 σ)
theorem cal_X7_pricesOf : CalV yX7_pricesOf cX7_pricesOf 7 (some .int) 2 := ⟨a_630, a_631, a_632, a_464, by decide, by decide, by decide +kernel⟩
theorem k_X7_pricesOf {K : Kt} {nL : Nat} {cs : Nat × Nat} {σ : Wd} {pc : Nat} {lv : List (Nat × Value)} {st : List Value} {cc : ByteArray} {own : String} {rm : Room} {index : Nat} {g : Int32 → Wd → Option (Int32 × Wd)} {a1 : Int32} {a2 : Int32} (hO : Ok K cc own nL rm)  (hl : Cond.methodLink own index yX7_pricesOf ∈ gtb) (hcat : Nat.ble ((st.map fun v => v.category).sum) 8 = true) (hR : RoomOk rm cs 2 43 7) (d : decode cc pc = .ok (.invokevirtual index, 3)) (kk : ∀ (r : Int32) (σ : Wd), Cm K nL cs (g r σ) σ (pc + 3) lv (.int r :: st)) : Cm K nL cs (bd (f_X7_pricesOf a1 a2 σ) g) σ pc lv (.int a2 :: .int a1 :: .ref (K.G.A 102) :: st) := r_cVi hO (c_X7_pricesOf  a1 a2 σ) cal_X7_pricesOf hl rfl (by decide) ent_X7 rfl rfl hcat hR d kk
/-! OrderSplitModel.costOf -/
def f_X7_costOf (a1 : Int32) (a2 : Int32) (σ : Wd) : Option (Int32 × Wd) := bd (f_X7_pricesOf a1 a2 σ) fun r1 σ2 => bd (f_X7_chargeOf a1 a2 σ2) fun r3 σ4 => some (r1 + r3, σ4)
set_option maxRecDepth 20000 in
set_option maxHeartbeats 1000000 in
theorem b_X7_costOf {K : Kt}  (hO : Ok K cX7_costOf RX7 3 rm_X7_costOf) (hR : Rt K (some .int))  (a1 : Int32) (a2 : Int32) (σ : Wd) : Cm K 3 (0, 0) (f_X7_costOf a1 a2 σ) σ 0 [(0, .ref (K.G.A 102)), (1, .int a1), (2, .int a2)] [] := by
  refine r_aload_n (i := 0) hO rfl rfl dX7_costOf_0 ?_
  refine r_iload_n (i := 1) hO rfl rfl dX7_costOf_1 ?_
  refine r_iload_n (i := 2) hO rfl rfl dX7_costOf_2 ?_
  refine k_X7_pricesOf hO a_633 rfl ⟨rfl, rfl, Nat.le_refl _, Nat.le_refl _⟩ dX7_costOf_3 ?_
  intro r1 σ2
  refine r_aload_n (i := 0) hO rfl rfl dX7_costOf_6 ?_
  refine r_iload_n (i := 1) hO rfl rfl dX7_costOf_7 ?_
  refine r_iload_n (i := 2) hO rfl rfl dX7_costOf_8 ?_
  refine k_X7_chargeOf hO a_634 rfl ⟨rfl, rfl, Nat.le_refl _, Nat.le_refl _⟩ dX7_costOf_9 ?_
  intro r3 σ4
  refine r_iadd hO dX7_costOf_12 ?_
  exact r_iret hO hR dX7_costOf_13
theorem c_X7_costOf {l : Launch} {G : Gh}   (a1 : Int32) (a2 : Int32) (σ : Wd) : Con l G yX7_costOf cX7_costOf 3 (some .int) 3 69 [.ref (G.A 102), .int a1, .int a2] σ (f_X7_costOf a1 a2 σ) := Con.of (plainFor_of_name (by decide)) rfl (Nat.le_of_ble_eq_true rfl) (fun K hl hG hO hR => by subst hl; subst hG; exact b_X7_costOf hO hR  a1 a2 σ)
theorem cal_X7_costOf : CalV yX7_costOf cX7_costOf 3 (some .int) 2 := ⟨a_635, a_636, a_637, a_464, by decide, by decide, by decide +kernel⟩
theorem k_X7_costOf {K : Kt} {nL : Nat} {cs : Nat × Nat} {σ : Wd} {pc : Nat} {lv : List (Nat × Value)} {st : List Value} {cc : ByteArray} {own : String} {rm : Room} {index : Nat} {g : Int32 → Wd → Option (Int32 × Wd)} {a1 : Int32} {a2 : Int32} (hO : Ok K cc own nL rm)  (hl : Cond.methodLink own index yX7_costOf ∈ gtb) (hcat : Nat.ble ((st.map fun v => v.category).sum) 8 = true) (hR : RoomOk rm cs 3 69 3) (d : decode cc pc = .ok (.invokevirtual index, 3)) (kk : ∀ (r : Int32) (σ : Wd), Cm K nL cs (g r σ) σ (pc + 3) lv (.int r :: st)) : Cm K nL cs (bd (f_X7_costOf a1 a2 σ) g) σ pc lv (.int a2 :: .int a1 :: .ref (K.G.A 102) :: st) := r_cVi hO (c_X7_costOf  a1 a2 σ) cal_X7_costOf hl rfl (by decide) ent_X7 rfl rfl hcat hR d kk
/-! OrderSplitModel.capOf -/
def f_X7_capOf_54  (k8 : Int32 → Int32 → Int32 → Int32 → Wd → Option (Int32 × Wd)) (x1 : Int32) (x3 : Int32) (x4 : Int32) (x5 : Int32) (σ : Wd) : Option (Int32 × Wd) := (k8 x1 x3 x4 (x5 + (1 : Int32)) σ)
def f_X7_capOf_60   (x4 : Int32) (σ : Wd) : Option (Int32 × Wd) := some (x4, σ)
def f_X7_capOf_8   : Nat → Int32 → Int32 → Int32 → Int32 → Wd → Option (Int32 × Wd)
  | 0 => fun _ _ _ _ _ => none
  | n + 1 => fun x1 x3 x4 x5 σ => bd (f_X7_levels x1 σ) fun r1 σ2 => if r1 ≤ x5 then (f_X7_capOf_60 x4 σ2) else (if x3 ≤ 0 then (f_X7_capOf_60 x4 σ2) else (bd (f_X7_sizeOf x1 x5 σ2) fun r3 σ4 => if r3 = 0 then (f_X7_capOf_54 (f_X7_capOf_8 n) x1 x3 x4 x5 σ4) else (bd (f_X7_priceOf x1 x5 σ4) fun r5 σ6 => bd (f_X7_sizeOf x1 x5 σ6) fun r7 σ8 => (f_X7_capOf_54 (f_X7_capOf_8 n) x1 (x3 - r7) r5 x5 σ8))))
def f_X7_capOf (a1 : Int32) (a2 : Int32) (σ : Wd) : Option (Int32 × Wd) := (f_X7_capOf_8 FU a1 a2 (0 : Int32) (0 : Int32) σ)
set_option maxRecDepth 20000 in
set_option maxHeartbeats 1000000 in
theorem b_X7_capOf_54 {K : Kt}  {k8 : Int32 → Int32 → Int32 → Int32 → Wd → Option (Int32 × Wd)} (hO : Ok K cX7_capOf RX7 6 rm_X7_capOf) (hR : Rt K (some .int))   (hk8 : ∀ (x1 : Int32) (x3 : Int32) (x4 : Int32) (x5 : Int32) (σ : Wd), Cm K 6 (0, 0) (k8 x1 x3 x4 x5 σ) σ 8 [(0, .ref (K.G.A 102)), (1, .int x1), (3, .int x3), (4, .int x4), (5, .int x5)] []) (x1 : Int32) (x3 : Int32) (x4 : Int32) (x5 : Int32) (σ : Wd)  : Cm K 6 (0, 0) (f_X7_capOf_54 k8 x1 x3 x4 x5 σ) σ 54 [(0, .ref (K.G.A 102)), (1, .int x1), (3, .int x3), (4, .int x4), (5, .int x5)] [] := by
  refine r_iinc hO rfl ci_1 rfl rfl dX7_capOf_54 ?_
  refine r_goto (tgt := 8) hO dX7_capOf_57 (by decide) ?_
  exact r_jmp (hk8 x1 x3 x4 (x5 + (1 : Int32)) σ) (lsub_c rfl (lsub_c rfl (lsub_c rfl (lsub_c rfl (lsub_c rfl lsub_n)))))
set_option maxRecDepth 20000 in
set_option maxHeartbeats 1000000 in
theorem b_X7_capOf_60 {K : Kt}   (hO : Ok K cX7_capOf RX7 6 rm_X7_capOf) (hR : Rt K (some .int))   (x4 : Int32) (σ : Wd)  : Cm K 6 (0, 0) (f_X7_capOf_60  x4 σ) σ 60 [(4, .int x4)] [] := by
  refine r_iload hO (d := dX7_capOf_60) rfl ?_
  exact r_iret hO hR dX7_capOf_62
set_option maxRecDepth 20000 in
set_option maxHeartbeats 1000000 in
theorem b_X7_capOf_8 {K : Kt}   (hO : Ok K cX7_capOf RX7 6 rm_X7_capOf) (hR : Rt K (some .int))   : ∀ (n : Nat) (x1 : Int32) (x3 : Int32) (x4 : Int32) (x5 : Int32) (σ : Wd) , Cm K 6 (0, 0) (f_X7_capOf_8  n x1 x3 x4 x5 σ) σ 8 [(0, .ref (K.G.A 102)), (1, .int x1), (3, .int x3), (4, .int x4), (5, .int x5)] [] := by
  intro n
  induction n with
  | zero => intro x1 x3 x4 x5 σ ; exact r_none
  | succ n ih =>
    intro x1 x3 x4 x5 σ 
    refine r_iload hO (d := dX7_capOf_8) rfl ?_
    refine r_aload_n (i := 0) hO rfl rfl dX7_capOf_10 ?_
    refine r_iload_n (i := 1) hO rfl rfl dX7_capOf_11 ?_
    refine k_X7_levels hO a_585 rfl ⟨rfl, rfl, Nat.le_refl _, Nat.le_refl _⟩ dX7_capOf_12 ?_
    intro r1 σ2
    refine r_icmp_ge (tgt := 60) hO dX7_capOf_15 (by decide) ?_ ?_
    · exact r_jmp (b_X7_capOf_60 hO hR x4 σ2) (lsub_c rfl lsub_n)
    · refine r_iload_n (i := 3) hO rfl rfl dX7_capOf_18 ?_
      refine r_if_le (tgt := 60) hO dX7_capOf_19 (by decide) ?_ ?_
      · exact r_jmp (b_X7_capOf_60 hO hR x4 σ2) (lsub_c rfl lsub_n)
      · refine r_aload_n (i := 0) hO rfl rfl dX7_capOf_22 ?_
        refine r_iload_n (i := 1) hO rfl rfl dX7_capOf_23 ?_
        refine r_iload hO (d := dX7_capOf_24) rfl ?_
        refine k_X7_sizeOf hO a_618 rfl ⟨rfl, rfl, Nat.le_refl _, Nat.le_refl _⟩ dX7_capOf_26 ?_
        intro r3 σ4
        refine r_if_ne (tgt := 35) hO dX7_capOf_29 (by decide) ?_ ?_
        · refine r_goto (tgt := 54) hO dX7_capOf_32 (by decide) ?_
          exact r_jmp (b_X7_capOf_54 hO hR ih x1 x3 x4 x5 σ4) (lsub_c rfl (lsub_c rfl (lsub_c rfl (lsub_c rfl (lsub_c rfl lsub_n)))))
        · refine r_aload_n (i := 0) hO rfl rfl dX7_capOf_35 ?_
          refine r_iload_n (i := 1) hO rfl rfl dX7_capOf_36 ?_
          refine r_iload hO (d := dX7_capOf_37) rfl ?_
          refine k_X7_priceOf hO a_617 rfl ⟨rfl, rfl, Nat.le_refl _, Nat.le_refl _⟩ dX7_capOf_39 ?_
          intro r5 σ6
          refine r_istore hO rfl rfl dX7_capOf_42 ?_
          refine r_iload_n (i := 3) hO rfl rfl dX7_capOf_44 ?_
          refine r_aload_n (i := 0) hO rfl rfl dX7_capOf_45 ?_
          refine r_iload_n (i := 1) hO rfl rfl dX7_capOf_46 ?_
          refine r_iload hO (d := dX7_capOf_47) rfl ?_
          refine k_X7_sizeOf hO a_618 rfl ⟨rfl, rfl, Nat.le_refl _, Nat.le_refl _⟩ dX7_capOf_49 ?_
          intro r7 σ8
          refine r_isub hO dX7_capOf_52 ?_
          refine r_istore_n (i := 3) hO rfl rfl rfl dX7_capOf_53 ?_
          exact r_jmp (b_X7_capOf_54 hO hR ih x1 (x3 - r7) r5 x5 σ8) (lsub_c rfl (lsub_c rfl (lsub_c rfl (lsub_c rfl (lsub_c rfl lsub_n)))))
set_option maxRecDepth 20000 in
set_option maxHeartbeats 1000000 in
theorem b_X7_capOf {K : Kt}  (hO : Ok K cX7_capOf RX7 6 rm_X7_capOf) (hR : Rt K (some .int))  (a1 : Int32) (a2 : Int32) (σ : Wd) : Cm K 6 (0, 0) (f_X7_capOf a1 a2 σ) σ 0 [(0, .ref (K.G.A 102)), (1, .int a1), (2, .int a2)] [] := by
  refine r_iload_n (i := 2) hO rfl rfl dX7_capOf_0 ?_
  refine r_istore_n (i := 3) hO rfl rfl rfl dX7_capOf_1 ?_
  refine r_iconst hO ci_0 dX7_capOf_2 ?_
  refine r_istore hO rfl rfl dX7_capOf_3 ?_
  refine r_iconst hO ci_0 dX7_capOf_5 ?_
  refine r_istore hO rfl rfl dX7_capOf_6 ?_
  exact r_jmp (b_X7_capOf_8 hO hR FU a1 a2 (0 : Int32) (0 : Int32) σ) (lsub_c rfl (lsub_c rfl (lsub_c rfl (lsub_c rfl (lsub_c rfl lsub_n)))))
theorem c_X7_capOf {l : Launch} {G : Gh}   (a1 : Int32) (a2 : Int32) (σ : Wd) : Con l G yX7_capOf cX7_capOf 6 (some .int) 2 43 [.ref (G.A 102), .int a1, .int a2] σ (f_X7_capOf a1 a2 σ) := Con.of (plainFor_of_name (by decide)) rfl (Nat.le_of_ble_eq_true rfl) (fun K hl hG hO hR => by subst hl; subst hG; exact b_X7_capOf hO hR  a1 a2 σ)
theorem cal_X7_capOf : CalV yX7_capOf cX7_capOf 6 (some .int) 2 := ⟨a_638, a_639, a_640, a_464, by decide, by decide, by decide +kernel⟩
theorem k_X7_capOf {K : Kt} {nL : Nat} {cs : Nat × Nat} {σ : Wd} {pc : Nat} {lv : List (Nat × Value)} {st : List Value} {cc : ByteArray} {own : String} {rm : Room} {index : Nat} {g : Int32 → Wd → Option (Int32 × Wd)} {a1 : Int32} {a2 : Int32} (hO : Ok K cc own nL rm)  (hl : Cond.methodLink own index yX7_capOf ∈ gtb) (hcat : Nat.ble ((st.map fun v => v.category).sum) 8 = true) (hR : RoomOk rm cs 2 43 6) (d : decode cc pc = .ok (.invokevirtual index, 3)) (kk : ∀ (r : Int32) (σ : Wd), Cm K nL cs (g r σ) σ (pc + 3) lv (.int r :: st)) : Cm K nL cs (bd (f_X7_capOf a1 a2 σ) g) σ pc lv (.int a2 :: .int a1 :: .ref (K.G.A 102) :: st) := r_cVi hO (c_X7_capOf  a1 a2 σ) cal_X7_capOf hl rfl (by decide) ent_X7 rfl rfl hcat hR d kk
/-! OrderSplitModel.venue -/
def f_X7_venue (a1 : Int32) (a2 : Int32) (σ : Wd) : Option (Int32 × Wd) := nmW (wi σ 102 0 (0 : Int32)) fun σ1 => bd (f_X7_isVenue a1 σ1) fun r2 σ3 => if r2 = 0 then (bd (f_X7_refusedLow (1 : Int32) σ3) fun r4 σ5 => some (r4, σ5)) else (if a2 = (0 : Int32) then (bd (f_X7_told a1 (0 : Int32) σ3) fun r6 σ7 => bd (f_X7_good r6 σ7) fun r8 σ9 => some (r8, σ9)) else (if a2 = (1 : Int32) then (bd (f_X7_lot a1 σ3) fun r10 σ11 => bd (f_X7_good r10 σ11) fun r12 σ13 => some (r12, σ13)) else (if a2 = (2 : Int32) then (gd (inb ((30 : Int32) + a1) 179) (bd (f_X7_good (σ3.1 112 (ix ((30 : Int32) + a1))) σ3) fun r14 σ15 => some (r14, σ15))) else (if a2 = (3 : Int32) then (bd (f_X7_told a1 (2 : Int32) σ3) fun r16 σ17 => bd (f_X7_good r16 σ17) fun r18 σ19 => some (r18, σ19)) else (if a2 = (4 : Int32) then (bd (f_X7_told a1 (3 : Int32) σ3) fun r20 σ21 => bd (f_X7_good r20 σ21) fun r22 σ23 => some (r22, σ23)) else (if a2 = (5 : Int32) then (bd (f_X7_levels a1 σ3) fun r24 σ25 => bd (f_X7_good r24 σ25) fun r26 σ27 => some (r26, σ27)) else (if a2 = (6 : Int32) then (bd (f_X7_depth a1 σ3) fun r28 σ29 => bd (f_X7_good r28 σ29) fun r30 σ31 => some (r30, σ31)) else (bd (f_X7_refusedLow (1 : Int32) σ3) fun r32 σ33 => some (r32, σ33)))))))))
set_option maxRecDepth 20000 in
set_option maxHeartbeats 1000000 in
theorem b_X7_venue {K : Kt}  (hO : Ok K cX7_venue RX7 3 rm_X7_venue) (hR : Rt K (some .int))  (a1 : Int32) (a2 : Int32) (σ : Wd) : Cm K 3 (0, 0) (f_X7_venue a1 a2 σ) σ 0 [(0, .ref (K.G.A 102)), (1, .int a1), (2, .int a2)] [] := by
  refine r_aload_n (i := 0) hO rfl rfl dX7_venue_0 ?_
  refine r_iconst hO ci_0 dX7_venue_1 ?_
  refine pX7_70 hO dX7_venue_2 ?_
  refine r_nmW fun σ1 => ?_
  refine r_aload_n (i := 0) hO rfl rfl dX7_venue_5 ?_
  refine r_iload_n (i := 1) hO rfl rfl dX7_venue_6 ?_
  refine k_X7_isVenue hO a_641 rfl ⟨rfl, rfl, Nat.le_refl _, Nat.le_refl _⟩ dX7_venue_7 ?_
  intro r2 σ3
  refine r_if_ne (tgt := 19) hO dX7_venue_10 (by decide) ?_ ?_
  · refine r_aload_n (i := 0) hO rfl rfl dX7_venue_13 ?_
    refine r_iconst hO ci_1 dX7_venue_14 ?_
    refine k_X7_refusedLow hO a_642 rfl ⟨rfl, rfl, Nat.le_refl _, Nat.le_refl _⟩ dX7_venue_15 ?_
    intro r4 σ5
    exact r_iret hO hR dX7_venue_18
  · refine r_iload_n (i := 2) hO rfl rfl dX7_venue_19 ?_
    refine r_if (fun hc => ?_) (fun hc0 => ?_)
    · refine r_tsI (tgt := 64) hO dX7_venue_20 hc (by decide) (by decide) rfl (by decide) ?_
      refine r_aload_n (i := 0) hO rfl rfl dX7_venue_64 ?_
      refine r_aload_n (i := 0) hO rfl rfl dX7_venue_65 ?_
      refine r_iload_n (i := 1) hO rfl rfl dX7_venue_66 ?_
      refine r_iconst hO ci_0 dX7_venue_67 ?_
      refine k_X7_told hO a_575 rfl ⟨rfl, rfl, Nat.le_refl _, Nat.le_refl _⟩ dX7_venue_68 ?_
      intro r6 σ7
      refine k_X7_good hO a_592 rfl ⟨rfl, rfl, Nat.le_refl _, Nat.le_refl _⟩ dX7_venue_71 ?_
      intro r8 σ9
      exact r_iret hO hR dX7_venue_74
    · refine r_if (fun hc => ?_) (fun hc1 => ?_)
      · refine r_tsI (tgt := 75) hO dX7_venue_20 hc (by decide) (by decide) rfl (by decide) ?_
        refine r_aload_n (i := 0) hO rfl rfl dX7_venue_75 ?_
        refine r_aload_n (i := 0) hO rfl rfl dX7_venue_76 ?_
        refine r_iload_n (i := 1) hO rfl rfl dX7_venue_77 ?_
        refine k_X7_lot hO a_643 rfl ⟨rfl, rfl, Nat.le_refl _, Nat.le_refl _⟩ dX7_venue_78 ?_
        intro r10 σ11
        refine k_X7_good hO a_592 rfl ⟨rfl, rfl, Nat.le_refl _, Nat.le_refl _⟩ dX7_venue_81 ?_
        intro r12 σ13
        exact r_iret hO hR dX7_venue_84
      · refine r_if (fun hc => ?_) (fun hc2 => ?_)
        · refine r_tsI (tgt := 85) hO dX7_venue_20 hc (by decide) (by decide) rfl (by decide) ?_
          refine r_aload_n (i := 0) hO rfl rfl dX7_venue_85 ?_
          refine r_aload_n (i := 0) hO rfl rfl dX7_venue_86 ?_
          refine gX7_44 hO dX7_venue_87 ?_
          refine r_bipush hO bi_30 dX7_venue_90 ?_
          refine r_iload_n (i := 1) hO rfl rfl dX7_venue_92 ?_
          refine r_iadd hO dX7_venue_93 ?_
          refine r_iald hO s_112 dX7_venue_94 ?_
          refine k_X7_good hO a_592 rfl ⟨rfl, rfl, Nat.le_refl _, Nat.le_refl _⟩ dX7_venue_95 ?_
          intro r14 σ15
          exact r_iret hO hR dX7_venue_98
        · refine r_if (fun hc => ?_) (fun hc3 => ?_)
          · refine r_tsI (tgt := 99) hO dX7_venue_20 hc (by decide) (by decide) rfl (by decide) ?_
            refine r_aload_n (i := 0) hO rfl rfl dX7_venue_99 ?_
            refine r_aload_n (i := 0) hO rfl rfl dX7_venue_100 ?_
            refine r_iload_n (i := 1) hO rfl rfl dX7_venue_101 ?_
            refine r_iconst hO ci_2 dX7_venue_102 ?_
            refine k_X7_told hO a_575 rfl ⟨rfl, rfl, Nat.le_refl _, Nat.le_refl _⟩ dX7_venue_103 ?_
            intro r16 σ17
            refine k_X7_good hO a_592 rfl ⟨rfl, rfl, Nat.le_refl _, Nat.le_refl _⟩ dX7_venue_106 ?_
            intro r18 σ19
            exact r_iret hO hR dX7_venue_109
          · refine r_if (fun hc => ?_) (fun hc4 => ?_)
            · refine r_tsI (tgt := 110) hO dX7_venue_20 hc (by decide) (by decide) rfl (by decide) ?_
              refine r_aload_n (i := 0) hO rfl rfl dX7_venue_110 ?_
              refine r_aload_n (i := 0) hO rfl rfl dX7_venue_111 ?_
              refine r_iload_n (i := 1) hO rfl rfl dX7_venue_112 ?_
              refine r_iconst hO ci_3 dX7_venue_113 ?_
              refine k_X7_told hO a_575 rfl ⟨rfl, rfl, Nat.le_refl _, Nat.le_refl _⟩ dX7_venue_114 ?_
              intro r20 σ21
              refine k_X7_good hO a_592 rfl ⟨rfl, rfl, Nat.le_refl _, Nat.le_refl _⟩ dX7_venue_117 ?_
              intro r22 σ23
              exact r_iret hO hR dX7_venue_120
            · refine r_if (fun hc => ?_) (fun hc5 => ?_)
              · refine r_tsI (tgt := 121) hO dX7_venue_20 hc (by decide) (by decide) rfl (by decide) ?_
                refine r_aload_n (i := 0) hO rfl rfl dX7_venue_121 ?_
                refine r_aload_n (i := 0) hO rfl rfl dX7_venue_122 ?_
                refine r_iload_n (i := 1) hO rfl rfl dX7_venue_123 ?_
                refine k_X7_levels hO a_585 rfl ⟨rfl, rfl, Nat.le_refl _, Nat.le_refl _⟩ dX7_venue_124 ?_
                intro r24 σ25
                refine k_X7_good hO a_592 rfl ⟨rfl, rfl, Nat.le_refl _, Nat.le_refl _⟩ dX7_venue_127 ?_
                intro r26 σ27
                exact r_iret hO hR dX7_venue_130
              · refine r_if (fun hc => ?_) (fun hc6 => ?_)
                · refine r_tsI (tgt := 131) hO dX7_venue_20 hc (by decide) (by decide) rfl (by decide) ?_
                  refine r_aload_n (i := 0) hO rfl rfl dX7_venue_131 ?_
                  refine r_aload_n (i := 0) hO rfl rfl dX7_venue_132 ?_
                  refine r_iload_n (i := 1) hO rfl rfl dX7_venue_133 ?_
                  refine k_X7_depth hO a_644 rfl ⟨rfl, rfl, Nat.le_refl _, Nat.le_refl _⟩ dX7_venue_134 ?_
                  intro r28 σ29
                  refine k_X7_good hO a_592 rfl ⟨rfl, rfl, Nat.le_refl _, Nat.le_refl _⟩ dX7_venue_137 ?_
                  intro r30 σ31
                  exact r_iret hO hR dX7_venue_140
                · have h_0 := ne_i (n := 0) hc0 rfl
                  have h_1 := ne_i (n := 1) hc1 rfl
                  have h_2 := ne_i (n := 2) hc2 rfl
                  have h_3 := ne_i (n := 3) hc3 rfl
                  have h_4 := ne_i (n := 4) hc4 rfl
                  have h_5 := ne_i (n := 5) hc5 rfl
                  have h_6 := ne_i (n := 6) hc6 rfl
                  refine r_tsO (tgt := 141) hO dX7_venue_20 (by omega) (by decide) ?_
                  refine r_aload_n (i := 0) hO rfl rfl dX7_venue_141 ?_
                  refine r_iconst hO ci_1 dX7_venue_142 ?_
                  refine k_X7_refusedLow hO a_642 rfl ⟨rfl, rfl, Nat.le_refl _, Nat.le_refl _⟩ dX7_venue_143 ?_
                  intro r32 σ33
                  exact r_iret hO hR dX7_venue_146
theorem c_X7_venue {l : Launch} {G : Gh}   (a1 : Int32) (a2 : Int32) (σ : Wd) : Con l G yX7_venue cX7_venue 3 (some .int) 4 88 [.ref (G.A 102), .int a1, .int a2] σ (f_X7_venue a1 a2 σ) := Con.of (plainFor_of_name (by decide)) rfl (Nat.le_of_ble_eq_true rfl) (fun K hl hG hO hR => by subst hl; subst hG; exact b_X7_venue hO hR  a1 a2 σ)
theorem cal_X7_venue : CalV yX7_venue cX7_venue 3 (some .int) 2 := ⟨a_645, a_646, a_647, a_464, by decide, by decide, by decide +kernel⟩
theorem k_X7_venue {K : Kt} {nL : Nat} {cs : Nat × Nat} {σ : Wd} {pc : Nat} {lv : List (Nat × Value)} {st : List Value} {cc : ByteArray} {own : String} {rm : Room} {index : Nat} {g : Int32 → Wd → Option (Int32 × Wd)} {a1 : Int32} {a2 : Int32} (hO : Ok K cc own nL rm)  (hl : Cond.methodLink own index yX7_venue ∈ gtb) (hcat : Nat.ble ((st.map fun v => v.category).sum) 8 = true) (hR : RoomOk rm cs 4 88 3) (d : decode cc pc = .ok (.invokevirtual index, 3)) (kk : ∀ (r : Int32) (σ : Wd), Cm K nL cs (g r σ) σ (pc + 3) lv (.int r :: st)) : Cm K nL cs (bd (f_X7_venue a1 a2 σ) g) σ pc lv (.int a2 :: .int a1 :: .ref (K.G.A 102) :: st) := r_cVi hO (c_X7_venue  a1 a2 σ) cal_X7_venue hl rfl (by decide) ent_X7 rfl rfl hcat hR d kk
/-! OrderSplitModel.level -/
def f_X7_level_37    (σ : Wd) : Option (Int32 × Wd) := bd (f_X7_refused (1 : Int32) σ) fun r1 σ2 => some (r1, σ2)
def f_X7_level_63   (s1 : Int32) (σ : Wd) : Option (Int32 × Wd) := bd (f_X7_good s1 σ) fun r1 σ2 => some (r1, σ2)
def f_X7_level (a1 : Int32) (a2 : Int32) (a3 : Int32) (σ : Wd) : Option (Int32 × Wd) := nmW (wi σ 102 0 (0 : Int32)) fun σ1 => bd (f_X7_isVenue a1 σ1) fun r2 σ3 => if r2 = 0 then (f_X7_level_37 σ3) else (bd (f_X7_levels a1 σ3) fun r4 σ5 => bd (f_X7_in a2 (0 : Int32) (r4 - (1 : Int32)) σ5) fun r6 σ7 => if r6 = 0 then (f_X7_level_37 σ7) else (bd (f_X7_in a3 (0 : Int32) (1 : Int32) σ7) fun r8 σ9 => if r8 = 0 then (f_X7_level_37 σ9) else (if a3 = 0 then (bd (f_X7_priceOf a1 a2 σ9) fun r10 σ11 => (f_X7_level_63 r10 σ11)) else (bd (f_X7_sizeOf a1 a2 σ9) fun r12 σ13 => (f_X7_level_63 r12 σ13)))))
set_option maxRecDepth 20000 in
set_option maxHeartbeats 1000000 in
theorem b_X7_level_37 {K : Kt}   (hO : Ok K cX7_level RX7 4 rm_X7_level) (hR : Rt K (some .int))    (σ : Wd)  : Cm K 4 (0, 0) (f_X7_level_37   σ) σ 37 [(0, .ref (K.G.A 102))] [] := by
  refine r_aload_n (i := 0) hO rfl rfl dX7_level_37 ?_
  refine r_iconst hO ci_1 dX7_level_38 ?_
  refine k_X7_refused hO a_465 rfl ⟨rfl, rfl, Nat.le_refl _, Nat.le_refl _⟩ dX7_level_39 ?_
  intro r1 σ2
  exact r_iret hO hR dX7_level_42
set_option maxRecDepth 20000 in
set_option maxHeartbeats 1000000 in
theorem b_X7_level_63 {K : Kt}   (hO : Ok K cX7_level RX7 4 rm_X7_level) (hR : Rt K (some .int))   (s1 : Int32) (σ : Wd)  : Cm K 4 (0, 0) (f_X7_level_63  s1 σ) σ 63 [] [.int s1, .ref (K.G.A 102)] := by
  refine k_X7_good hO a_592 rfl ⟨rfl, rfl, Nat.le_refl _, Nat.le_refl _⟩ dX7_level_63 ?_
  intro r1 σ2
  exact r_iret hO hR dX7_level_66
set_option maxRecDepth 20000 in
set_option maxHeartbeats 1000000 in
theorem b_X7_level {K : Kt}  (hO : Ok K cX7_level RX7 4 rm_X7_level) (hR : Rt K (some .int))  (a1 : Int32) (a2 : Int32) (a3 : Int32) (σ : Wd) : Cm K 4 (0, 0) (f_X7_level a1 a2 a3 σ) σ 0 [(0, .ref (K.G.A 102)), (1, .int a1), (2, .int a2), (3, .int a3)] [] := by
  refine r_aload_n (i := 0) hO rfl rfl dX7_level_0 ?_
  refine r_iconst hO ci_0 dX7_level_1 ?_
  refine pX7_70 hO dX7_level_2 ?_
  refine r_nmW fun σ1 => ?_
  refine r_aload_n (i := 0) hO rfl rfl dX7_level_5 ?_
  refine r_iload_n (i := 1) hO rfl rfl dX7_level_6 ?_
  refine k_X7_isVenue hO a_641 rfl ⟨rfl, rfl, Nat.le_refl _, Nat.le_refl _⟩ dX7_level_7 ?_
  intro r2 σ3
  refine r_if_eq (tgt := 37) hO dX7_level_10 (by decide) ?_ ?_
  · exact r_jmp (b_X7_level_37 hO hR σ3) (lsub_c rfl lsub_n)
  · refine r_iload_n (i := 2) hO rfl rfl dX7_level_13 ?_
    refine r_iconst hO ci_0 dX7_level_14 ?_
    refine r_aload_n (i := 0) hO rfl rfl dX7_level_15 ?_
    refine r_iload_n (i := 1) hO rfl rfl dX7_level_16 ?_
    refine k_X7_levels hO a_585 rfl ⟨rfl, rfl, Nat.le_refl _, Nat.le_refl _⟩ dX7_level_17 ?_
    intro r4 σ5
    refine r_iconst hO ci_1 dX7_level_20 ?_
    refine r_isub hO dX7_level_21 ?_
    refine k_X7_in hO a_483 rfl ⟨rfl, rfl, Nat.le_refl _, Nat.le_refl _⟩ dX7_level_22 ?_
    intro r6 σ7
    refine r_if_eq (tgt := 37) hO dX7_level_25 (by decide) ?_ ?_
    · exact r_jmp (b_X7_level_37 hO hR σ7) (lsub_c rfl lsub_n)
    · refine r_iload_n (i := 3) hO rfl rfl dX7_level_28 ?_
      refine r_iconst hO ci_0 dX7_level_29 ?_
      refine r_iconst hO ci_1 dX7_level_30 ?_
      refine k_X7_in hO a_483 rfl ⟨rfl, rfl, Nat.le_refl _, Nat.le_refl _⟩ dX7_level_31 ?_
      intro r8 σ9
      refine r_if_ne (tgt := 43) hO dX7_level_34 (by decide) ?_ ?_
      · exact r_jmp (b_X7_level_37 hO hR σ9) (lsub_c rfl lsub_n)
      · refine r_aload_n (i := 0) hO rfl rfl dX7_level_43 ?_
        refine r_iload_n (i := 3) hO rfl rfl dX7_level_44 ?_
        refine r_if_ne (tgt := 57) hO dX7_level_45 (by decide) ?_ ?_
        · refine r_aload_n (i := 0) hO rfl rfl dX7_level_48 ?_
          refine r_iload_n (i := 1) hO rfl rfl dX7_level_49 ?_
          refine r_iload_n (i := 2) hO rfl rfl dX7_level_50 ?_
          refine k_X7_priceOf hO a_617 rfl ⟨rfl, rfl, Nat.le_refl _, Nat.le_refl _⟩ dX7_level_51 ?_
          intro r10 σ11
          refine r_goto (tgt := 63) hO dX7_level_54 (by decide) ?_
          exact r_jmp (b_X7_level_63 hO hR r10 σ11) lsub_n
        · refine r_aload_n (i := 0) hO rfl rfl dX7_level_57 ?_
          refine r_iload_n (i := 1) hO rfl rfl dX7_level_58 ?_
          refine r_iload_n (i := 2) hO rfl rfl dX7_level_59 ?_
          refine k_X7_sizeOf hO a_618 rfl ⟨rfl, rfl, Nat.le_refl _, Nat.le_refl _⟩ dX7_level_60 ?_
          intro r12 σ13
          exact r_jmp (b_X7_level_63 hO hR r12 σ13) lsub_n
theorem c_X7_level {l : Launch} {G : Gh}   (a1 : Int32) (a2 : Int32) (a3 : Int32) (σ : Wd) : Con l G yX7_level cX7_level 4 (some .int) 2 43 [.ref (G.A 102), .int a1, .int a2, .int a3] σ (f_X7_level a1 a2 a3 σ) := Con.of (plainFor_of_name (by decide)) rfl (Nat.le_of_ble_eq_true rfl) (fun K hl hG hO hR => by subst hl; subst hG; exact b_X7_level hO hR  a1 a2 a3 σ)
theorem cal_X7_level : CalV yX7_level cX7_level 4 (some .int) 3 := ⟨a_648, a_649, a_650, a_464, by decide, by decide, by decide +kernel⟩
theorem k_X7_level {K : Kt} {nL : Nat} {cs : Nat × Nat} {σ : Wd} {pc : Nat} {lv : List (Nat × Value)} {st : List Value} {cc : ByteArray} {own : String} {rm : Room} {index : Nat} {g : Int32 → Wd → Option (Int32 × Wd)} {a1 : Int32} {a2 : Int32} {a3 : Int32} (hO : Ok K cc own nL rm)  (hl : Cond.methodLink own index yX7_level ∈ gtb) (hcat : Nat.ble ((st.map fun v => v.category).sum) 8 = true) (hR : RoomOk rm cs 2 43 4) (d : decode cc pc = .ok (.invokevirtual index, 3)) (kk : ∀ (r : Int32) (σ : Wd), Cm K nL cs (g r σ) σ (pc + 3) lv (.int r :: st)) : Cm K nL cs (bd (f_X7_level a1 a2 a3 σ) g) σ pc lv (.int a3 :: .int a2 :: .int a1 :: .ref (K.G.A 102) :: st) := r_cVi hO (c_X7_level  a1 a2 a3 σ) cal_X7_level hl rfl (by decide) ent_X7 rfl rfl hcat hR d kk
/-! OrderSplitModel.charge -/
def f_X7_charge_47   (s0 : Int32) (σ : Wd) : Option (Int32 × Wd) := some (s0, σ)
def f_X7_charge (a1 : Int32) (a2 : Int32) (σ : Wd) : Option (Int32 × Wd) := nmW (wi σ 102 0 (0 : Int32)) fun σ1 => bd (f_X7_isVenue a1 σ1) fun r2 σ3 => if r2 = 0 then (bd (f_X7_refusedLow (1 : Int32) σ3) fun r4 σ5 => some (r4, σ5)) else (bd (f_X7_in a2 (0 : Int32) (120 : Int32) σ3) fun r6 σ7 => if r6 = 0 then (bd (f_X7_refusedLow (2 : Int32) σ7) fun r8 σ9 => (f_X7_charge_47 r8 σ9)) else (bd (f_X7_chargeOf a1 a2 σ7) fun r10 σ11 => bd (f_X7_good r10 σ11) fun r12 σ13 => (f_X7_charge_47 r12 σ13)))
set_option maxRecDepth 20000 in
set_option maxHeartbeats 1000000 in
theorem b_X7_charge_47 {K : Kt}   (hO : Ok K cX7_charge RX7 3 rm_X7_charge) (hR : Rt K (some .int))   (s0 : Int32) (σ : Wd)  : Cm K 3 (0, 0) (f_X7_charge_47  s0 σ) σ 47 [] [.int s0] := by
  exact r_iret hO hR dX7_charge_47
set_option maxRecDepth 20000 in
set_option maxHeartbeats 1000000 in
theorem b_X7_charge {K : Kt}  (hO : Ok K cX7_charge RX7 3 rm_X7_charge) (hR : Rt K (some .int))  (a1 : Int32) (a2 : Int32) (σ : Wd) : Cm K 3 (0, 0) (f_X7_charge a1 a2 σ) σ 0 [(0, .ref (K.G.A 102)), (1, .int a1), (2, .int a2)] [] := by
  refine r_aload_n (i := 0) hO rfl rfl dX7_charge_0 ?_
  refine r_iconst hO ci_0 dX7_charge_1 ?_
  refine pX7_70 hO dX7_charge_2 ?_
  refine r_nmW fun σ1 => ?_
  refine r_aload_n (i := 0) hO rfl rfl dX7_charge_5 ?_
  refine r_iload_n (i := 1) hO rfl rfl dX7_charge_6 ?_
  refine k_X7_isVenue hO a_641 rfl ⟨rfl, rfl, Nat.le_refl _, Nat.le_refl _⟩ dX7_charge_7 ?_
  intro r2 σ3
  refine r_if_ne (tgt := 19) hO dX7_charge_10 (by decide) ?_ ?_
  · refine r_aload_n (i := 0) hO rfl rfl dX7_charge_13 ?_
    refine r_iconst hO ci_1 dX7_charge_14 ?_
    refine k_X7_refusedLow hO a_642 rfl ⟨rfl, rfl, Nat.le_refl _, Nat.le_refl _⟩ dX7_charge_15 ?_
    intro r4 σ5
    exact r_iret hO hR dX7_charge_18
  · refine r_iload_n (i := 2) hO rfl rfl dX7_charge_19 ?_
    refine r_iconst hO ci_0 dX7_charge_20 ?_
    refine r_bipush hO bi_120 dX7_charge_21 ?_
    refine k_X7_in hO a_483 rfl ⟨rfl, rfl, Nat.le_refl _, Nat.le_refl _⟩ dX7_charge_23 ?_
    intro r6 σ7
    refine r_if_eq (tgt := 42) hO dX7_charge_26 (by decide) ?_ ?_
    · refine r_aload_n (i := 0) hO rfl rfl dX7_charge_42 ?_
      refine r_iconst hO ci_2 dX7_charge_43 ?_
      refine k_X7_refusedLow hO a_642 rfl ⟨rfl, rfl, Nat.le_refl _, Nat.le_refl _⟩ dX7_charge_44 ?_
      intro r8 σ9
      exact r_jmp (b_X7_charge_47 hO hR r8 σ9) lsub_n
    · refine r_aload_n (i := 0) hO rfl rfl dX7_charge_29 ?_
      refine r_aload_n (i := 0) hO rfl rfl dX7_charge_30 ?_
      refine r_iload_n (i := 1) hO rfl rfl dX7_charge_31 ?_
      refine r_iload_n (i := 2) hO rfl rfl dX7_charge_32 ?_
      refine k_X7_chargeOf hO a_634 rfl ⟨rfl, rfl, Nat.le_refl _, Nat.le_refl _⟩ dX7_charge_33 ?_
      intro r10 σ11
      refine k_X7_good hO a_592 rfl ⟨rfl, rfl, Nat.le_refl _, Nat.le_refl _⟩ dX7_charge_36 ?_
      intro r12 σ13
      refine r_goto (tgt := 47) hO dX7_charge_39 (by decide) ?_
      exact r_jmp (b_X7_charge_47 hO hR r12 σ13) lsub_n
theorem c_X7_charge {l : Launch} {G : Gh}   (a1 : Int32) (a2 : Int32) (σ : Wd) : Con l G yX7_charge cX7_charge 3 (some .int) 2 46 [.ref (G.A 102), .int a1, .int a2] σ (f_X7_charge a1 a2 σ) := Con.of (plainFor_of_name (by decide)) rfl (Nat.le_of_ble_eq_true rfl) (fun K hl hG hO hR => by subst hl; subst hG; exact b_X7_charge hO hR  a1 a2 σ)
theorem cal_X7_charge : CalV yX7_charge cX7_charge 3 (some .int) 2 := ⟨a_651, a_652, a_653, a_464, by decide, by decide, by decide +kernel⟩
theorem k_X7_charge {K : Kt} {nL : Nat} {cs : Nat × Nat} {σ : Wd} {pc : Nat} {lv : List (Nat × Value)} {st : List Value} {cc : ByteArray} {own : String} {rm : Room} {index : Nat} {g : Int32 → Wd → Option (Int32 × Wd)} {a1 : Int32} {a2 : Int32} (hO : Ok K cc own nL rm)  (hl : Cond.methodLink own index yX7_charge ∈ gtb) (hcat : Nat.ble ((st.map fun v => v.category).sum) 8 = true) (hR : RoomOk rm cs 2 46 3) (d : decode cc pc = .ok (.invokevirtual index, 3)) (kk : ∀ (r : Int32) (σ : Wd), Cm K nL cs (g r σ) σ (pc + 3) lv (.int r :: st)) : Cm K nL cs (bd (f_X7_charge a1 a2 σ) g) σ pc lv (.int a2 :: .int a1 :: .ref (K.G.A 102) :: st) := r_cVi hO (c_X7_charge  a1 a2 σ) cal_X7_charge hl rfl (by decide) ent_X7 rfl rfl hcat hR d kk
/-! OrderSplitModel.canHave -/
def f_X7_canHave_28   (s0 : Int32) (σ : Wd) : Option (Int32 × Wd) := gd (isb s0) (some (s0, σ))
def f_X7_canHave_27    (σ : Wd) : Option (Int32 × Wd) := (f_X7_canHave_28 (0 : Int32) σ)
def f_X7_canHave (a1 : Int32) (a2 : Int32) (σ : Wd) : Option (Int32 × Wd) := if a2 < 0 then (f_X7_canHave_27 σ) else (bd (f_X7_lot a1 σ) fun r1 σ2 => gd (!decide (r1 = 0)) (if (a2 % r1) = 0 then (bd (f_X7_depth a1 σ2) fun r3 σ4 => if r3 < a2 then (f_X7_canHave_27 σ4) else (f_X7_canHave_28 (1 : Int32) σ4)) else (f_X7_canHave_27 σ2)))
set_option maxRecDepth 20000 in
set_option maxHeartbeats 1000000 in
theorem b_X7_canHave_28 {K : Kt}   (hO : Ok K cX7_canHave RX7 3 rm_X7_canHave) (hR : Rt K (some .boolean))   (s0 : Int32) (σ : Wd)  : Cm K 3 (0, 0) (f_X7_canHave_28  s0 σ) σ 28 [] [.int s0] := by
  exact r_zret hO hR dX7_canHave_28
set_option maxRecDepth 20000 in
set_option maxHeartbeats 1000000 in
theorem b_X7_canHave_27 {K : Kt}   (hO : Ok K cX7_canHave RX7 3 rm_X7_canHave) (hR : Rt K (some .boolean))    (σ : Wd)  : Cm K 3 (0, 0) (f_X7_canHave_27   σ) σ 27 [] [] := by
  refine r_iconst hO ci_0 dX7_canHave_27 ?_
  exact r_jmp (b_X7_canHave_28 hO hR (0 : Int32) σ) lsub_n
set_option maxRecDepth 20000 in
set_option maxHeartbeats 1000000 in
theorem b_X7_canHave {K : Kt}  (hO : Ok K cX7_canHave RX7 3 rm_X7_canHave) (hR : Rt K (some .boolean))  (a1 : Int32) (a2 : Int32) (σ : Wd) : Cm K 3 (0, 0) (f_X7_canHave a1 a2 σ) σ 0 [(0, .ref (K.G.A 102)), (1, .int a1), (2, .int a2)] [] := by
  refine r_iload_n (i := 2) hO rfl rfl dX7_canHave_0 ?_
  refine r_if_lt (tgt := 27) hO dX7_canHave_1 (by decide) ?_ ?_
  · exact r_jmp (b_X7_canHave_27 hO hR σ) lsub_n
  · refine r_iload_n (i := 2) hO rfl rfl dX7_canHave_4 ?_
    refine r_aload_n (i := 0) hO rfl rfl dX7_canHave_5 ?_
    refine r_iload_n (i := 1) hO rfl rfl dX7_canHave_6 ?_
    refine k_X7_lot hO a_643 rfl ⟨rfl, rfl, Nat.le_refl _, Nat.le_refl _⟩ dX7_canHave_7 ?_
    intro r1 σ2
    refine r_irem hO dX7_canHave_10 ?_
    refine r_if_ne (tgt := 27) hO dX7_canHave_11 (by decide) ?_ ?_
    · refine r_iload_n (i := 2) hO rfl rfl dX7_canHave_14 ?_
      refine r_aload_n (i := 0) hO rfl rfl dX7_canHave_15 ?_
      refine r_iload_n (i := 1) hO rfl rfl dX7_canHave_16 ?_
      refine k_X7_depth hO a_644 rfl ⟨rfl, rfl, Nat.le_refl _, Nat.le_refl _⟩ dX7_canHave_17 ?_
      intro r3 σ4
      refine r_icmp_gt (tgt := 27) hO dX7_canHave_20 (by decide) ?_ ?_
      · exact r_jmp (b_X7_canHave_27 hO hR σ4) lsub_n
      · refine r_iconst hO ci_1 dX7_canHave_23 ?_
        refine r_goto (tgt := 28) hO dX7_canHave_24 (by decide) ?_
        exact r_jmp (b_X7_canHave_28 hO hR (1 : Int32) σ4) lsub_n
    · exact r_jmp (b_X7_canHave_27 hO hR σ2) lsub_n
theorem c_X7_canHave {l : Launch} {G : Gh}   (a1 : Int32) (a2 : Int32) (σ : Wd) : Con l G yX7_canHave cX7_canHave 3 (some .boolean) 4 88 [.ref (G.A 102), .int a1, .int a2] σ (f_X7_canHave a1 a2 σ) := Con.of (plainFor_of_name (by decide)) rfl (Nat.le_of_ble_eq_true rfl) (fun K hl hG hO hR => by subst hl; subst hG; exact b_X7_canHave hO hR  a1 a2 σ)
theorem cal_X7_canHave : CalV yX7_canHave cX7_canHave 3 (some .boolean) 2 := ⟨a_654, a_655, a_656, a_464, by decide, by decide, by decide +kernel⟩
theorem k_X7_canHave {K : Kt} {nL : Nat} {cs : Nat × Nat} {σ : Wd} {pc : Nat} {lv : List (Nat × Value)} {st : List Value} {cc : ByteArray} {own : String} {rm : Room} {index : Nat} {g : Int32 → Wd → Option (Int32 × Wd)} {a1 : Int32} {a2 : Int32} (hO : Ok K cc own nL rm)  (hl : Cond.methodLink own index yX7_canHave ∈ gtb) (hcat : Nat.ble ((st.map fun v => v.category).sum) 8 = true) (hR : RoomOk rm cs 4 88 3) (d : decode cc pc = .ok (.invokevirtual index, 3)) (kk : ∀ (r : Int32) (σ : Wd), Cm K nL cs (g r σ) σ (pc + 3) lv (.int r :: st)) : Cm K nL cs (bd (f_X7_canHave a1 a2 σ) g) σ pc lv (.int a2 :: .int a1 :: .ref (K.G.A 102) :: st) := r_cVi hO (c_X7_canHave  a1 a2 σ) cal_X7_canHave hl rfl (by decide) ent_X7 rfl rfl hcat hR d kk
/-! OrderSplitModel.cost -/
def f_X7_cost_56   (s0 : Int32) (σ : Wd) : Option (Int32 × Wd) := some (s0, σ)
def f_X7_cost_51    (σ : Wd) : Option (Int32 × Wd) := bd (f_X7_refusedLow (2 : Int32) σ) fun r1 σ2 => (f_X7_cost_56 r1 σ2)
def f_X7_cost (a1 : Int32) (a2 : Int32) (σ : Wd) : Option (Int32 × Wd) := nmW (wi σ 102 0 (0 : Int32)) fun σ1 => bd (f_X7_isVenue a1 σ1) fun r2 σ3 => if r2 = 0 then (bd (f_X7_refusedLow (1 : Int32) σ3) fun r4 σ5 => some (r4, σ5)) else (bd (f_X7_in a2 (0 : Int32) (120 : Int32) σ3) fun r6 σ7 => if r6 = 0 then (f_X7_cost_51 σ7) else (bd (f_X7_canHave a1 a2 σ7) fun r8 σ9 => if r8 = 0 then (f_X7_cost_51 σ9) else (bd (f_X7_costOf a1 a2 σ9) fun r10 σ11 => bd (f_X7_good r10 σ11) fun r12 σ13 => (f_X7_cost_56 r12 σ13))))
set_option maxRecDepth 20000 in
set_option maxHeartbeats 1000000 in
theorem b_X7_cost_56 {K : Kt}   (hO : Ok K cX7_cost RX7 3 rm_X7_cost) (hR : Rt K (some .int))   (s0 : Int32) (σ : Wd)  : Cm K 3 (0, 0) (f_X7_cost_56  s0 σ) σ 56 [] [.int s0] := by
  exact r_iret hO hR dX7_cost_56
set_option maxRecDepth 20000 in
set_option maxHeartbeats 1000000 in
theorem b_X7_cost_51 {K : Kt}   (hO : Ok K cX7_cost RX7 3 rm_X7_cost) (hR : Rt K (some .int))    (σ : Wd)  : Cm K 3 (0, 0) (f_X7_cost_51   σ) σ 51 [(0, .ref (K.G.A 102))] [] := by
  refine r_aload_n (i := 0) hO rfl rfl dX7_cost_51 ?_
  refine r_iconst hO ci_2 dX7_cost_52 ?_
  refine k_X7_refusedLow hO a_642 rfl ⟨rfl, rfl, Nat.le_refl _, Nat.le_refl _⟩ dX7_cost_53 ?_
  intro r1 σ2
  exact r_jmp (b_X7_cost_56 hO hR r1 σ2) lsub_n
set_option maxRecDepth 20000 in
set_option maxHeartbeats 1000000 in
theorem b_X7_cost {K : Kt}  (hO : Ok K cX7_cost RX7 3 rm_X7_cost) (hR : Rt K (some .int))  (a1 : Int32) (a2 : Int32) (σ : Wd) : Cm K 3 (0, 0) (f_X7_cost a1 a2 σ) σ 0 [(0, .ref (K.G.A 102)), (1, .int a1), (2, .int a2)] [] := by
  refine r_aload_n (i := 0) hO rfl rfl dX7_cost_0 ?_
  refine r_iconst hO ci_0 dX7_cost_1 ?_
  refine pX7_70 hO dX7_cost_2 ?_
  refine r_nmW fun σ1 => ?_
  refine r_aload_n (i := 0) hO rfl rfl dX7_cost_5 ?_
  refine r_iload_n (i := 1) hO rfl rfl dX7_cost_6 ?_
  refine k_X7_isVenue hO a_641 rfl ⟨rfl, rfl, Nat.le_refl _, Nat.le_refl _⟩ dX7_cost_7 ?_
  intro r2 σ3
  refine r_if_ne (tgt := 19) hO dX7_cost_10 (by decide) ?_ ?_
  · refine r_aload_n (i := 0) hO rfl rfl dX7_cost_13 ?_
    refine r_iconst hO ci_1 dX7_cost_14 ?_
    refine k_X7_refusedLow hO a_642 rfl ⟨rfl, rfl, Nat.le_refl _, Nat.le_refl _⟩ dX7_cost_15 ?_
    intro r4 σ5
    exact r_iret hO hR dX7_cost_18
  · refine r_iload_n (i := 2) hO rfl rfl dX7_cost_19 ?_
    refine r_iconst hO ci_0 dX7_cost_20 ?_
    refine r_bipush hO bi_120 dX7_cost_21 ?_
    refine k_X7_in hO a_483 rfl ⟨rfl, rfl, Nat.le_refl _, Nat.le_refl _⟩ dX7_cost_23 ?_
    intro r6 σ7
    refine r_if_eq (tgt := 51) hO dX7_cost_26 (by decide) ?_ ?_
    · exact r_jmp (b_X7_cost_51 hO hR σ7) (lsub_c rfl lsub_n)
    · refine r_aload_n (i := 0) hO rfl rfl dX7_cost_29 ?_
      refine r_iload_n (i := 1) hO rfl rfl dX7_cost_30 ?_
      refine r_iload_n (i := 2) hO rfl rfl dX7_cost_31 ?_
      refine k_X7_canHave hO a_657 rfl ⟨rfl, rfl, Nat.le_refl _, Nat.le_refl _⟩ dX7_cost_32 ?_
      intro r8 σ9
      refine r_if_eq (tgt := 51) hO dX7_cost_35 (by decide) ?_ ?_
      · exact r_jmp (b_X7_cost_51 hO hR σ9) (lsub_c rfl lsub_n)
      · refine r_aload_n (i := 0) hO rfl rfl dX7_cost_38 ?_
        refine r_aload_n (i := 0) hO rfl rfl dX7_cost_39 ?_
        refine r_iload_n (i := 1) hO rfl rfl dX7_cost_40 ?_
        refine r_iload_n (i := 2) hO rfl rfl dX7_cost_41 ?_
        refine k_X7_costOf hO a_658 rfl ⟨rfl, rfl, Nat.le_refl _, Nat.le_refl _⟩ dX7_cost_42 ?_
        intro r10 σ11
        refine k_X7_good hO a_592 rfl ⟨rfl, rfl, Nat.le_refl _, Nat.le_refl _⟩ dX7_cost_45 ?_
        intro r12 σ13
        refine r_goto (tgt := 56) hO dX7_cost_48 (by decide) ?_
        exact r_jmp (b_X7_cost_56 hO hR r12 σ13) lsub_n
theorem c_X7_cost {l : Launch} {G : Gh}   (a1 : Int32) (a2 : Int32) (σ : Wd) : Con l G yX7_cost cX7_cost 3 (some .int) 5 110 [.ref (G.A 102), .int a1, .int a2] σ (f_X7_cost a1 a2 σ) := Con.of (plainFor_of_name (by decide)) rfl (Nat.le_of_ble_eq_true rfl) (fun K hl hG hO hR => by subst hl; subst hG; exact b_X7_cost hO hR  a1 a2 σ)
theorem cal_X7_cost : CalV yX7_cost cX7_cost 3 (some .int) 2 := ⟨a_659, a_660, a_661, a_464, by decide, by decide, by decide +kernel⟩
theorem k_X7_cost {K : Kt} {nL : Nat} {cs : Nat × Nat} {σ : Wd} {pc : Nat} {lv : List (Nat × Value)} {st : List Value} {cc : ByteArray} {own : String} {rm : Room} {index : Nat} {g : Int32 → Wd → Option (Int32 × Wd)} {a1 : Int32} {a2 : Int32} (hO : Ok K cc own nL rm)  (hl : Cond.methodLink own index yX7_cost ∈ gtb) (hcat : Nat.ble ((st.map fun v => v.category).sum) 8 = true) (hR : RoomOk rm cs 5 110 3) (d : decode cc pc = .ok (.invokevirtual index, 3)) (kk : ∀ (r : Int32) (σ : Wd), Cm K nL cs (g r σ) σ (pc + 3) lv (.int r :: st)) : Cm K nL cs (bd (f_X7_cost a1 a2 σ) g) σ pc lv (.int a2 :: .int a1 :: .ref (K.G.A 102) :: st) := r_cVi hO (c_X7_cost  a1 a2 σ) cal_X7_cost hl rfl (by decide) ent_X7 rfl rfl hcat hR d kk
/-! OrderSplitModel.under -/
def f_X7_under_48   (s0 : Int32) (σ : Wd) : Option (Int32 × Wd) := some (s0, σ)
def f_X7_under (a1 : Int32) (a2 : Int32) (σ : Wd) : Option (Int32 × Wd) := nmW (wi σ 102 0 (0 : Int32)) fun σ1 => bd (f_X7_isVenue a1 σ1) fun r2 σ3 => if r2 = 0 then (bd (f_X7_refused (1 : Int32) σ3) fun r4 σ5 => some (r4, σ5)) else (bd (f_X7_in a2 (1 : Int32) (999 : Int32) σ3) fun r6 σ7 => if r6 = 0 then (bd (f_X7_refused (2 : Int32) σ7) fun r8 σ9 => (f_X7_under_48 r8 σ9)) else (bd (f_X7_unitsTo a1 a2 σ7) fun r10 σ11 => bd (f_X7_good r10 σ11) fun r12 σ13 => (f_X7_under_48 r12 σ13)))
set_option maxRecDepth 20000 in
set_option maxHeartbeats 1000000 in
theorem b_X7_under_48 {K : Kt}   (hO : Ok K cX7_under RX7 3 rm_X7_under) (hR : Rt K (some .int))   (s0 : Int32) (σ : Wd)  : Cm K 3 (0, 0) (f_X7_under_48  s0 σ) σ 48 [] [.int s0] := by
  exact r_iret hO hR dX7_under_48
set_option maxRecDepth 20000 in
set_option maxHeartbeats 1000000 in
theorem b_X7_under {K : Kt}  (hO : Ok K cX7_under RX7 3 rm_X7_under) (hR : Rt K (some .int))  (a1 : Int32) (a2 : Int32) (σ : Wd) : Cm K 3 (0, 0) (f_X7_under a1 a2 σ) σ 0 [(0, .ref (K.G.A 102)), (1, .int a1), (2, .int a2)] [] := by
  refine r_aload_n (i := 0) hO rfl rfl dX7_under_0 ?_
  refine r_iconst hO ci_0 dX7_under_1 ?_
  refine pX7_70 hO dX7_under_2 ?_
  refine r_nmW fun σ1 => ?_
  refine r_aload_n (i := 0) hO rfl rfl dX7_under_5 ?_
  refine r_iload_n (i := 1) hO rfl rfl dX7_under_6 ?_
  refine k_X7_isVenue hO a_641 rfl ⟨rfl, rfl, Nat.le_refl _, Nat.le_refl _⟩ dX7_under_7 ?_
  intro r2 σ3
  refine r_if_ne (tgt := 19) hO dX7_under_10 (by decide) ?_ ?_
  · refine r_aload_n (i := 0) hO rfl rfl dX7_under_13 ?_
    refine r_iconst hO ci_1 dX7_under_14 ?_
    refine k_X7_refused hO a_465 rfl ⟨rfl, rfl, Nat.le_refl _, Nat.le_refl _⟩ dX7_under_15 ?_
    intro r4 σ5
    exact r_iret hO hR dX7_under_18
  · refine r_iload_n (i := 2) hO rfl rfl dX7_under_19 ?_
    refine r_iconst hO ci_1 dX7_under_20 ?_
    refine r_sipush hO si_999 dX7_under_21 ?_
    refine k_X7_in hO a_483 rfl ⟨rfl, rfl, Nat.le_refl _, Nat.le_refl _⟩ dX7_under_24 ?_
    intro r6 σ7
    refine r_if_eq (tgt := 43) hO dX7_under_27 (by decide) ?_ ?_
    · refine r_aload_n (i := 0) hO rfl rfl dX7_under_43 ?_
      refine r_iconst hO ci_2 dX7_under_44 ?_
      refine k_X7_refused hO a_465 rfl ⟨rfl, rfl, Nat.le_refl _, Nat.le_refl _⟩ dX7_under_45 ?_
      intro r8 σ9
      exact r_jmp (b_X7_under_48 hO hR r8 σ9) lsub_n
    · refine r_aload_n (i := 0) hO rfl rfl dX7_under_30 ?_
      refine r_aload_n (i := 0) hO rfl rfl dX7_under_31 ?_
      refine r_iload_n (i := 1) hO rfl rfl dX7_under_32 ?_
      refine r_iload_n (i := 2) hO rfl rfl dX7_under_33 ?_
      refine k_X7_unitsTo hO a_622 rfl ⟨rfl, rfl, Nat.le_refl _, Nat.le_refl _⟩ dX7_under_34 ?_
      intro r10 σ11
      refine k_X7_good hO a_592 rfl ⟨rfl, rfl, Nat.le_refl _, Nat.le_refl _⟩ dX7_under_37 ?_
      intro r12 σ13
      refine r_goto (tgt := 48) hO dX7_under_40 (by decide) ?_
      exact r_jmp (b_X7_under_48 hO hR r12 σ13) lsub_n
theorem c_X7_under {l : Launch} {G : Gh}   (a1 : Int32) (a2 : Int32) (σ : Wd) : Con l G yX7_under cX7_under 3 (some .int) 3 67 [.ref (G.A 102), .int a1, .int a2] σ (f_X7_under a1 a2 σ) := Con.of (plainFor_of_name (by decide)) rfl (Nat.le_of_ble_eq_true rfl) (fun K hl hG hO hR => by subst hl; subst hG; exact b_X7_under hO hR  a1 a2 σ)
theorem cal_X7_under : CalV yX7_under cX7_under 3 (some .int) 2 := ⟨a_662, a_663, a_664, a_464, by decide, by decide, by decide +kernel⟩
theorem k_X7_under {K : Kt} {nL : Nat} {cs : Nat × Nat} {σ : Wd} {pc : Nat} {lv : List (Nat × Value)} {st : List Value} {cc : ByteArray} {own : String} {rm : Room} {index : Nat} {g : Int32 → Wd → Option (Int32 × Wd)} {a1 : Int32} {a2 : Int32} (hO : Ok K cc own nL rm)  (hl : Cond.methodLink own index yX7_under ∈ gtb) (hcat : Nat.ble ((st.map fun v => v.category).sum) 8 = true) (hR : RoomOk rm cs 3 67 3) (d : decode cc pc = .ok (.invokevirtual index, 3)) (kk : ∀ (r : Int32) (σ : Wd), Cm K nL cs (g r σ) σ (pc + 3) lv (.int r :: st)) : Cm K nL cs (bd (f_X7_under a1 a2 σ) g) σ pc lv (.int a2 :: .int a1 :: .ref (K.G.A 102) :: st) := r_cVi hO (c_X7_under  a1 a2 σ) cal_X7_under hl rfl (by decide) ent_X7 rfl rfl hcat hR d kk
/-! OrderSplitModel.mostAt -/
def f_X7_mostAt_25   (x1 : Int32) (s0 : Int32) (σ : Wd) : Option (Int32 × Wd) := bd (f_X7_lot x1 σ) fun r1 σ2 => gd (!decide (r1 = 0)) (bd (f_X7_lot x1 σ2) fun r3 σ4 => some ((s0 / r1) * r3, σ4))
def f_X7_mostAt (a1 : Int32) (a2 : Int32) (a3 : Int32) (σ : Wd) : Option (Int32 × Wd) := if a1 = a3 then (some ((0 : Int32), σ)) else (bd (f_X7_depth a1 σ) fun r1 σ2 => if a2 ≤ r1 then (f_X7_mostAt_25 a1 a2 σ2) else (bd (f_X7_depth a1 σ2) fun r3 σ4 => (f_X7_mostAt_25 a1 r3 σ4)))
set_option maxRecDepth 20000 in
set_option maxHeartbeats 1000000 in
theorem b_X7_mostAt_25 {K : Kt}   (hO : Ok K cX7_mostAt RX7 5 rm_X7_mostAt) (hR : Rt K (some .int))   (x1 : Int32) (s0 : Int32) (σ : Wd)  : Cm K 5 (0, 0) (f_X7_mostAt_25  x1 s0 σ) σ 25 [(0, .ref (K.G.A 102)), (1, .int x1)] [.int s0] := by
  refine r_istore hO rfl rfl dX7_mostAt_25 ?_
  refine r_iload hO (d := dX7_mostAt_27) rfl ?_
  refine r_aload_n (i := 0) hO rfl rfl dX7_mostAt_29 ?_
  refine r_iload_n (i := 1) hO rfl rfl dX7_mostAt_30 ?_
  refine k_X7_lot hO a_643 rfl ⟨rfl, rfl, Nat.le_refl _, Nat.le_refl _⟩ dX7_mostAt_31 ?_
  intro r1 σ2
  refine r_idiv hO dX7_mostAt_34 ?_
  refine r_aload_n (i := 0) hO rfl rfl dX7_mostAt_35 ?_
  refine r_iload_n (i := 1) hO rfl rfl dX7_mostAt_36 ?_
  refine k_X7_lot hO a_643 rfl ⟨rfl, rfl, Nat.le_refl _, Nat.le_refl _⟩ dX7_mostAt_37 ?_
  intro r3 σ4
  refine r_imul hO dX7_mostAt_40 ?_
  exact r_iret hO hR dX7_mostAt_41
set_option maxRecDepth 20000 in
set_option maxHeartbeats 1000000 in
theorem b_X7_mostAt {K : Kt}  (hO : Ok K cX7_mostAt RX7 5 rm_X7_mostAt) (hR : Rt K (some .int))  (a1 : Int32) (a2 : Int32) (a3 : Int32) (σ : Wd) : Cm K 5 (0, 0) (f_X7_mostAt a1 a2 a3 σ) σ 0 [(0, .ref (K.G.A 102)), (1, .int a1), (2, .int a2), (3, .int a3)] [] := by
  refine r_iload_n (i := 1) hO rfl rfl dX7_mostAt_0 ?_
  refine r_iload_n (i := 3) hO rfl rfl dX7_mostAt_1 ?_
  refine r_icmp_ne (tgt := 7) hO dX7_mostAt_2 (by decide) ?_ ?_
  · refine r_iconst hO ci_0 dX7_mostAt_5 ?_
    exact r_iret hO hR dX7_mostAt_6
  · refine r_aload_n (i := 0) hO rfl rfl dX7_mostAt_7 ?_
    refine r_iload_n (i := 1) hO rfl rfl dX7_mostAt_8 ?_
    refine k_X7_depth hO a_644 rfl ⟨rfl, rfl, Nat.le_refl _, Nat.le_refl _⟩ dX7_mostAt_9 ?_
    intro r1 σ2
    refine r_iload_n (i := 2) hO rfl rfl dX7_mostAt_12 ?_
    refine r_icmp_ge (tgt := 24) hO dX7_mostAt_13 (by decide) ?_ ?_
    · refine r_iload_n (i := 2) hO rfl rfl dX7_mostAt_24 ?_
      exact r_jmp (b_X7_mostAt_25 hO hR a1 a2 σ2) (lsub_c rfl (lsub_c rfl lsub_n))
    · refine r_aload_n (i := 0) hO rfl rfl dX7_mostAt_16 ?_
      refine r_iload_n (i := 1) hO rfl rfl dX7_mostAt_17 ?_
      refine k_X7_depth hO a_644 rfl ⟨rfl, rfl, Nat.le_refl _, Nat.le_refl _⟩ dX7_mostAt_18 ?_
      intro r3 σ4
      refine r_goto (tgt := 25) hO dX7_mostAt_21 (by decide) ?_
      exact r_jmp (b_X7_mostAt_25 hO hR a1 r3 σ4) (lsub_c rfl (lsub_c rfl lsub_n))
theorem c_X7_mostAt {l : Launch} {G : Gh}   (a1 : Int32) (a2 : Int32) (a3 : Int32) (σ : Wd) : Con l G yX7_mostAt cX7_mostAt 5 (some .int) 4 88 [.ref (G.A 102), .int a1, .int a2, .int a3] σ (f_X7_mostAt a1 a2 a3 σ) := Con.of (plainFor_of_name (by decide)) rfl (Nat.le_of_ble_eq_true rfl) (fun K hl hG hO hR => by subst hl; subst hG; exact b_X7_mostAt hO hR  a1 a2 a3 σ)
theorem cal_X7_mostAt : CalV yX7_mostAt cX7_mostAt 5 (some .int) 3 := ⟨a_665, a_666, a_667, a_464, by decide, by decide, by decide +kernel⟩
theorem k_X7_mostAt {K : Kt} {nL : Nat} {cs : Nat × Nat} {σ : Wd} {pc : Nat} {lv : List (Nat × Value)} {st : List Value} {cc : ByteArray} {own : String} {rm : Room} {index : Nat} {g : Int32 → Wd → Option (Int32 × Wd)} {a1 : Int32} {a2 : Int32} {a3 : Int32} (hO : Ok K cc own nL rm)  (hl : Cond.methodLink own index yX7_mostAt ∈ gtb) (hcat : Nat.ble ((st.map fun v => v.category).sum) 8 = true) (hR : RoomOk rm cs 4 88 5) (d : decode cc pc = .ok (.invokevirtual index, 3)) (kk : ∀ (r : Int32) (σ : Wd), Cm K nL cs (g r σ) σ (pc + 3) lv (.int r :: st)) : Cm K nL cs (bd (f_X7_mostAt a1 a2 a3 σ) g) σ pc lv (.int a3 :: .int a2 :: .int a1 :: .ref (K.G.A 102) :: st) := r_cVi hO (c_X7_mostAt  a1 a2 a3 σ) cal_X7_mostAt hl rfl (by decide) ent_X7 rfl rfl hcat hR d kk
/-! OrderSplitModel.leastFrom -/
def f_X7_leastFrom_71  (k14 : Int32 → Int32 → Int32 → Int32 → Wd → Option (Int32 × Wd)) (x1 : Int32) (x2 : Int32) (x4 : Int32) (x5 : Int32) (σ : Wd) : Option (Int32 × Wd) := bd (f_X7_lot x1 σ) fun r1 σ2 => (k14 x1 x2 x4 (x5 - r1) σ2)
def f_X7_leastFrom_14   : Nat → Int32 → Int32 → Int32 → Int32 → Wd → Option (Int32 × Wd)
  | 0 => fun _ _ _ _ _ => none
  | n + 1 => fun x1 x2 x4 x5 σ => if x5 < 0 then (some (x4, σ)) else (gd (inb ((((121 : Int32) * (x1 + (1 : Int32))) + x2) - x5) 726) (if (σ.1 116 (ix ((((121 : Int32) * (x1 + (1 : Int32))) + x2) - x5))) < (50000000 : Int32) then (bd (f_X7_costOf x1 x5 σ) fun r1 σ2 => if x4 ≤ (r1 + (σ.1 116 (ix ((((121 : Int32) * (x1 + (1 : Int32))) + x2) - x5)))) then (f_X7_leastFrom_71 (f_X7_leastFrom_14 n) x1 x2 x4 x5 σ2) else (f_X7_leastFrom_71 (f_X7_leastFrom_14 n) x1 x2 (r1 + (σ.1 116 (ix ((((121 : Int32) * (x1 + (1 : Int32))) + x2) - x5)))) x5 σ2)) else (f_X7_leastFrom_71 (f_X7_leastFrom_14 n) x1 x2 x4 x5 σ)))
def f_X7_leastFrom (a1 : Int32) (a2 : Int32) (a3 : Int32) (σ : Wd) : Option (Int32 × Wd) := bd (f_X7_mostAt a1 a2 a3 σ) fun r1 σ2 => (f_X7_leastFrom_14 FU a1 a2 (100000000 : Int32) r1 σ2)
set_option maxRecDepth 20000 in
set_option maxHeartbeats 1000000 in
theorem b_X7_leastFrom_71 {K : Kt}  {k14 : Int32 → Int32 → Int32 → Int32 → Wd → Option (Int32 × Wd)} (hO : Ok K cX7_leastFrom RX7 8 rm_X7_leastFrom) (hR : Rt K (some .int))   (hk14 : ∀ (x1 : Int32) (x2 : Int32) (x4 : Int32) (x5 : Int32) (σ : Wd), Cm K 8 (0, 0) (k14 x1 x2 x4 x5 σ) σ 14 [(0, .ref (K.G.A 102)), (1, .int x1), (2, .int x2), (4, .int x4), (5, .int x5)] []) (x1 : Int32) (x2 : Int32) (x4 : Int32) (x5 : Int32) (σ : Wd)  : Cm K 8 (0, 0) (f_X7_leastFrom_71 k14 x1 x2 x4 x5 σ) σ 71 [(0, .ref (K.G.A 102)), (1, .int x1), (2, .int x2), (4, .int x4), (5, .int x5)] [] := by
  refine r_iload hO (d := dX7_leastFrom_71) rfl ?_
  refine r_aload_n (i := 0) hO rfl rfl dX7_leastFrom_73 ?_
  refine r_iload_n (i := 1) hO rfl rfl dX7_leastFrom_74 ?_
  refine k_X7_lot hO a_643 rfl ⟨rfl, rfl, Nat.le_refl _, Nat.le_refl _⟩ dX7_leastFrom_75 ?_
  intro r1 σ2
  refine r_isub hO dX7_leastFrom_78 ?_
  refine r_istore hO rfl rfl dX7_leastFrom_79 ?_
  refine r_goto (tgt := 14) hO dX7_leastFrom_81 (by decide) ?_
  exact r_jmp (hk14 x1 x2 x4 (x5 - r1) σ2) (lsub_c rfl (lsub_c rfl (lsub_c rfl (lsub_c rfl (lsub_c rfl lsub_n)))))
set_option maxRecDepth 20000 in
set_option maxHeartbeats 1000000 in
theorem b_X7_leastFrom_14 {K : Kt}   (hO : Ok K cX7_leastFrom RX7 8 rm_X7_leastFrom) (hR : Rt K (some .int))   : ∀ (n : Nat) (x1 : Int32) (x2 : Int32) (x4 : Int32) (x5 : Int32) (σ : Wd) , Cm K 8 (0, 0) (f_X7_leastFrom_14  n x1 x2 x4 x5 σ) σ 14 [(0, .ref (K.G.A 102)), (1, .int x1), (2, .int x2), (4, .int x4), (5, .int x5)] [] := by
  intro n
  induction n with
  | zero => intro x1 x2 x4 x5 σ ; exact r_none
  | succ n ih =>
    intro x1 x2 x4 x5 σ 
    refine r_iload hO (d := dX7_leastFrom_14) rfl ?_
    refine r_if_lt (tgt := 84) hO dX7_leastFrom_16 (by decide) ?_ ?_
    · refine r_iload hO (d := dX7_leastFrom_84) rfl ?_
      exact r_iret hO hR dX7_leastFrom_86
    · refine r_aload_n (i := 0) hO rfl rfl dX7_leastFrom_19 ?_
      refine gX7_57 hO dX7_leastFrom_20 ?_
      refine r_bipush hO bi_121 dX7_leastFrom_23 ?_
      refine r_iload_n (i := 1) hO rfl rfl dX7_leastFrom_25 ?_
      refine r_iconst hO ci_1 dX7_leastFrom_26 ?_
      refine r_iadd hO dX7_leastFrom_27 ?_
      refine r_imul hO dX7_leastFrom_28 ?_
      refine r_iload_n (i := 2) hO rfl rfl dX7_leastFrom_29 ?_
      refine r_iadd hO dX7_leastFrom_30 ?_
      refine r_iload hO (d := dX7_leastFrom_31) rfl ?_
      refine r_isub hO dX7_leastFrom_33 ?_
      refine r_iald hO s_116 dX7_leastFrom_34 ?_
      refine r_istore hO rfl rfl dX7_leastFrom_35 ?_
      refine r_iload hO (d := dX7_leastFrom_37) rfl ?_
      refine r_ldcw hO a_670 dX7_leastFrom_39 ?_
      refine r_icmp_lt (tgt := 48) hO dX7_leastFrom_42 (by decide) ?_ ?_
      · refine r_aload_n (i := 0) hO rfl rfl dX7_leastFrom_48 ?_
        refine r_iload_n (i := 1) hO rfl rfl dX7_leastFrom_49 ?_
        refine r_iload hO (d := dX7_leastFrom_50) rfl ?_
        refine k_X7_costOf hO a_658 rfl ⟨rfl, rfl, Nat.le_refl _, Nat.le_refl _⟩ dX7_leastFrom_52 ?_
        intro r1 σ2
        refine r_iload hO (d := dX7_leastFrom_55) rfl ?_
        refine r_iadd hO dX7_leastFrom_57 ?_
        refine r_istore hO rfl rfl dX7_leastFrom_58 ?_
        refine r_iload hO (d := dX7_leastFrom_60) rfl ?_
        refine r_iload hO (d := dX7_leastFrom_62) rfl ?_
        refine r_icmp_ge (tgt := 71) hO dX7_leastFrom_64 (by decide) ?_ ?_
        · exact r_jmp (b_X7_leastFrom_71 hO hR ih x1 x2 x4 x5 σ2) (lsub_c rfl (lsub_c rfl (lsub_c rfl (lsub_c rfl (lsub_c rfl lsub_n)))))
        · refine r_iload hO (d := dX7_leastFrom_67) rfl ?_
          refine r_istore hO rfl rfl dX7_leastFrom_69 ?_
          exact r_jmp (b_X7_leastFrom_71 hO hR ih x1 x2 (r1 + (σ.1 116 (ix ((((121 : Int32) * (x1 + (1 : Int32))) + x2) - x5)))) x5 σ2) (lsub_c rfl (lsub_c rfl (lsub_c rfl (lsub_c rfl (lsub_c rfl lsub_n)))))
      · refine r_goto (tgt := 71) hO dX7_leastFrom_45 (by decide) ?_
        exact r_jmp (b_X7_leastFrom_71 hO hR ih x1 x2 x4 x5 σ) (lsub_c rfl (lsub_c rfl (lsub_c rfl (lsub_c rfl (lsub_c rfl lsub_n)))))
set_option maxRecDepth 20000 in
set_option maxHeartbeats 1000000 in
theorem b_X7_leastFrom {K : Kt}  (hO : Ok K cX7_leastFrom RX7 8 rm_X7_leastFrom) (hR : Rt K (some .int))  (a1 : Int32) (a2 : Int32) (a3 : Int32) (σ : Wd) : Cm K 8 (0, 0) (f_X7_leastFrom a1 a2 a3 σ) σ 0 [(0, .ref (K.G.A 102)), (1, .int a1), (2, .int a2), (3, .int a3)] [] := by
  refine r_ldcw hO a_668 dX7_leastFrom_0 ?_
  refine r_istore hO rfl rfl dX7_leastFrom_3 ?_
  refine r_aload_n (i := 0) hO rfl rfl dX7_leastFrom_5 ?_
  refine r_iload_n (i := 1) hO rfl rfl dX7_leastFrom_6 ?_
  refine r_iload_n (i := 2) hO rfl rfl dX7_leastFrom_7 ?_
  refine r_iload_n (i := 3) hO rfl rfl dX7_leastFrom_8 ?_
  refine k_X7_mostAt hO a_669 rfl ⟨rfl, rfl, Nat.le_refl _, Nat.le_refl _⟩ dX7_leastFrom_9 ?_
  intro r1 σ2
  refine r_istore hO rfl rfl dX7_leastFrom_12 ?_
  exact r_jmp (b_X7_leastFrom_14 hO hR FU a1 a2 (100000000 : Int32) r1 σ2) (lsub_c rfl (lsub_c rfl (lsub_c rfl (lsub_c rfl (lsub_c rfl lsub_n)))))
theorem c_X7_leastFrom {l : Launch} {G : Gh}   (a1 : Int32) (a2 : Int32) (a3 : Int32) (σ : Wd) : Con l G yX7_leastFrom cX7_leastFrom 8 (some .int) 5 112 [.ref (G.A 102), .int a1, .int a2, .int a3] σ (f_X7_leastFrom a1 a2 a3 σ) := Con.of (plainFor_of_name (by decide)) rfl (Nat.le_of_ble_eq_true rfl) (fun K hl hG hO hR => by subst hl; subst hG; exact b_X7_leastFrom hO hR  a1 a2 a3 σ)
theorem cal_X7_leastFrom : CalV yX7_leastFrom cX7_leastFrom 8 (some .int) 3 := ⟨a_671, a_672, a_673, a_464, by decide, by decide, by decide +kernel⟩
theorem k_X7_leastFrom {K : Kt} {nL : Nat} {cs : Nat × Nat} {σ : Wd} {pc : Nat} {lv : List (Nat × Value)} {st : List Value} {cc : ByteArray} {own : String} {rm : Room} {index : Nat} {g : Int32 → Wd → Option (Int32 × Wd)} {a1 : Int32} {a2 : Int32} {a3 : Int32} (hO : Ok K cc own nL rm)  (hl : Cond.methodLink own index yX7_leastFrom ∈ gtb) (hcat : Nat.ble ((st.map fun v => v.category).sum) 8 = true) (hR : RoomOk rm cs 5 112 8) (d : decode cc pc = .ok (.invokevirtual index, 3)) (kk : ∀ (r : Int32) (σ : Wd), Cm K nL cs (g r σ) σ (pc + 3) lv (.int r :: st)) : Cm K nL cs (bd (f_X7_leastFrom a1 a2 a3 σ) g) σ pc lv (.int a3 :: .int a2 :: .int a1 :: .ref (K.G.A 102) :: st) := r_cVi hO (c_X7_leastFrom  a1 a2 a3 σ) cal_X7_leastFrom hl rfl (by decide) ent_X7 rfl rfl hcat hR d kk
/-! OrderSplitModel.laysShares -/
def f_X7_laysShares_84  (k7 : Int32 → Int32 → Int32 → Wd → Option (Int32 × Wd)) (k24 : Int32 → Int32 → Int32 → Int32 → Wd → Option (Int32 × Wd)) (x1 : Int32) (x2 : Int32) (x3 : Int32) (x4 : Int32) (σ : Wd) : Option (Int32 × Wd) := bd (f_X7_lot x3 σ) fun r1 σ2 => (k24 x1 x2 x3 (x4 - r1) σ2)
def f_X7_laysShares_24  (k7 : Int32 → Int32 → Int32 → Wd → Option (Int32 × Wd)) : Nat → Int32 → Int32 → Int32 → Int32 → Wd → Option (Int32 × Wd)
  | 0 => fun _ _ _ _ _ => none
  | n + 1 => fun x1 x2 x3 x4 σ => gd (inb ((((121 : Int32) * (x3 + (1 : Int32))) + x2) - x4) 726) (if (50000000 : Int32) ≤ (σ.1 116 (ix ((((121 : Int32) * (x3 + (1 : Int32))) + x2) - x4))) then (f_X7_laysShares_84 k7 (f_X7_laysShares_24 k7 n) x1 x2 x3 x4 σ) else (bd (f_X7_costOf x3 x4 σ) fun r1 σ2 => gd (inb ((((121 : Int32) * (x3 + (1 : Int32))) + x2) - x4) 726) (gd (inb (((121 : Int32) * x3) + x2) 726) (if (r1 + (σ2.1 116 (ix ((((121 : Int32) * (x3 + (1 : Int32))) + x2) - x4)))) = (σ2.1 116 (ix (((121 : Int32) * x3) + x2))) then (gd (inb x3 5) (nmW (wi σ2 117 (ix x3) x4) fun σ3 => (k7 x1 (x2 - x4) (x3 + (1 : Int32)) σ3))) else (f_X7_laysShares_84 k7 (f_X7_laysShares_24 k7 n) x1 x2 x3 x4 σ2)))))
def f_X7_laysShares_7   : Nat → Int32 → Int32 → Int32 → Wd → Option (Int32 × Wd)
  | 0 => fun _ _ _ _ => none
  | n + 1 => fun x1 x2 x3 σ => if (σ.1 102 14) ≤ x3 then (some (0, σ)) else (bd (f_X7_mostAt x3 x2 x1 σ) fun r1 σ2 => (f_X7_laysShares_24 (f_X7_laysShares_7 n) FU x1 x2 x3 r1 σ2))
def f_X7_laysShares (a1 : Int32) (σ : Wd) : Option (Int32 × Wd) := (f_X7_laysShares_7 FU a1 (σ.1 102 37) (0 : Int32) σ)
set_option maxRecDepth 20000 in
set_option maxHeartbeats 1000000 in
theorem b_X7_laysShares_84 {K : Kt}  {k7 : Int32 → Int32 → Int32 → Wd → Option (Int32 × Wd)} {k24 : Int32 → Int32 → Int32 → Int32 → Wd → Option (Int32 × Wd)} (hO : Ok K cX7_laysShares RX7 5 rm_X7_laysShares) (hR : Rt K none)   (hk7 : ∀ (x1 : Int32) (x2 : Int32) (x3 : Int32) (σ : Wd), Cm K 5 (0, 0) (k7 x1 x2 x3 σ) σ 7 [(0, .ref (K.G.A 102)), (1, .int x1), (2, .int x2), (3, .int x3)] []) (hk24 : ∀ (x1 : Int32) (x2 : Int32) (x3 : Int32) (x4 : Int32) (σ : Wd), Cm K 5 (0, 0) (k24 x1 x2 x3 x4 σ) σ 24 [(0, .ref (K.G.A 102)), (1, .int x1), (2, .int x2), (3, .int x3), (4, .int x4)] []) (x1 : Int32) (x2 : Int32) (x3 : Int32) (x4 : Int32) (σ : Wd)  : Cm K 5 (0, 0) (f_X7_laysShares_84 k7 k24 x1 x2 x3 x4 σ) σ 84 [(0, .ref (K.G.A 102)), (1, .int x1), (2, .int x2), (3, .int x3), (4, .int x4)] [] := by
  refine r_iload hO (d := dX7_laysShares_84) rfl ?_
  refine r_aload_n (i := 0) hO rfl rfl dX7_laysShares_86 ?_
  refine r_iload_n (i := 3) hO rfl rfl dX7_laysShares_87 ?_
  refine k_X7_lot hO a_643 rfl ⟨rfl, rfl, Nat.le_refl _, Nat.le_refl _⟩ dX7_laysShares_88 ?_
  intro r1 σ2
  refine r_isub hO dX7_laysShares_91 ?_
  refine r_istore hO rfl rfl dX7_laysShares_92 ?_
  refine r_goto (tgt := 24) hO dX7_laysShares_94 (by decide) ?_
  exact r_jmp (hk24 x1 x2 x3 (x4 - r1) σ2) (lsub_c rfl (lsub_c rfl (lsub_c rfl (lsub_c rfl (lsub_c rfl lsub_n)))))
set_option maxRecDepth 20000 in
set_option maxHeartbeats 1000000 in
theorem b_X7_laysShares_24 {K : Kt}  {k7 : Int32 → Int32 → Int32 → Wd → Option (Int32 × Wd)} (hO : Ok K cX7_laysShares RX7 5 rm_X7_laysShares) (hR : Rt K none)   (hk7 : ∀ (x1 : Int32) (x2 : Int32) (x3 : Int32) (σ : Wd), Cm K 5 (0, 0) (k7 x1 x2 x3 σ) σ 7 [(0, .ref (K.G.A 102)), (1, .int x1), (2, .int x2), (3, .int x3)] []) : ∀ (n : Nat) (x1 : Int32) (x2 : Int32) (x3 : Int32) (x4 : Int32) (σ : Wd) , Cm K 5 (0, 0) (f_X7_laysShares_24 k7 n x1 x2 x3 x4 σ) σ 24 [(0, .ref (K.G.A 102)), (1, .int x1), (2, .int x2), (3, .int x3), (4, .int x4)] [] := by
  intro n
  induction n with
  | zero => intro x1 x2 x3 x4 σ ; exact r_none
  | succ n ih =>
    intro x1 x2 x3 x4 σ 
    refine r_aload_n (i := 0) hO rfl rfl dX7_laysShares_24 ?_
    refine gX7_57 hO dX7_laysShares_25 ?_
    refine r_bipush hO bi_121 dX7_laysShares_28 ?_
    refine r_iload_n (i := 3) hO rfl rfl dX7_laysShares_30 ?_
    refine r_iconst hO ci_1 dX7_laysShares_31 ?_
    refine r_iadd hO dX7_laysShares_32 ?_
    refine r_imul hO dX7_laysShares_33 ?_
    refine r_iload_n (i := 2) hO rfl rfl dX7_laysShares_34 ?_
    refine r_iadd hO dX7_laysShares_35 ?_
    refine r_iload hO (d := dX7_laysShares_36) rfl ?_
    refine r_isub hO dX7_laysShares_38 ?_
    refine r_iald hO s_116 dX7_laysShares_39 ?_
    refine r_ldcw hO a_670 dX7_laysShares_40 ?_
    refine r_icmp_ge (tgt := 84) hO dX7_laysShares_43 (by decide) ?_ ?_
    · exact r_jmp (b_X7_laysShares_84 hO hR hk7 ih x1 x2 x3 x4 σ) (lsub_c rfl (lsub_c rfl (lsub_c rfl (lsub_c rfl (lsub_c rfl lsub_n)))))
    · refine r_aload_n (i := 0) hO rfl rfl dX7_laysShares_46 ?_
      refine r_iload_n (i := 3) hO rfl rfl dX7_laysShares_47 ?_
      refine r_iload hO (d := dX7_laysShares_48) rfl ?_
      refine k_X7_costOf hO a_658 rfl ⟨rfl, rfl, Nat.le_refl _, Nat.le_refl _⟩ dX7_laysShares_50 ?_
      intro r1 σ2
      refine r_aload_n (i := 0) hO rfl rfl dX7_laysShares_53 ?_
      refine gX7_57 hO dX7_laysShares_54 ?_
      refine r_bipush hO bi_121 dX7_laysShares_57 ?_
      refine r_iload_n (i := 3) hO rfl rfl dX7_laysShares_59 ?_
      refine r_iconst hO ci_1 dX7_laysShares_60 ?_
      refine r_iadd hO dX7_laysShares_61 ?_
      refine r_imul hO dX7_laysShares_62 ?_
      refine r_iload_n (i := 2) hO rfl rfl dX7_laysShares_63 ?_
      refine r_iadd hO dX7_laysShares_64 ?_
      refine r_iload hO (d := dX7_laysShares_65) rfl ?_
      refine r_isub hO dX7_laysShares_67 ?_
      refine r_iald hO s_116 dX7_laysShares_68 ?_
      refine r_iadd hO dX7_laysShares_69 ?_
      refine r_aload_n (i := 0) hO rfl rfl dX7_laysShares_70 ?_
      refine gX7_57 hO dX7_laysShares_71 ?_
      refine r_bipush hO bi_121 dX7_laysShares_74 ?_
      refine r_iload_n (i := 3) hO rfl rfl dX7_laysShares_76 ?_
      refine r_imul hO dX7_laysShares_77 ?_
      refine r_iload_n (i := 2) hO rfl rfl dX7_laysShares_78 ?_
      refine r_iadd hO dX7_laysShares_79 ?_
      refine r_iald hO s_116 dX7_laysShares_80 ?_
      refine r_icmp_eq (tgt := 97) hO dX7_laysShares_81 (by decide) ?_ ?_
      · refine r_aload_n (i := 0) hO rfl rfl dX7_laysShares_97 ?_
        refine gX7_60 hO dX7_laysShares_98 ?_
        refine r_iload_n (i := 3) hO rfl rfl dX7_laysShares_101 ?_
        refine r_iload hO (d := dX7_laysShares_102) rfl ?_
        refine r_iast hO s_117 dX7_laysShares_104 ?_
        refine r_nmW fun σ3 => ?_
        refine r_iload_n (i := 2) hO rfl rfl dX7_laysShares_105 ?_
        refine r_iload hO (d := dX7_laysShares_106) rfl ?_
        refine r_isub hO dX7_laysShares_108 ?_
        refine r_istore_n (i := 2) hO rfl rfl rfl dX7_laysShares_109 ?_
        refine r_iinc hO rfl ci_1 rfl rfl dX7_laysShares_110 ?_
        refine r_goto (tgt := 7) hO dX7_laysShares_113 (by decide) ?_
        exact r_jmp (hk7 x1 (x2 - x4) (x3 + (1 : Int32)) σ3) (lsub_c rfl (lsub_c rfl (lsub_c rfl (lsub_c rfl lsub_n))))
      · exact r_jmp (b_X7_laysShares_84 hO hR hk7 ih x1 x2 x3 x4 σ2) (lsub_c rfl (lsub_c rfl (lsub_c rfl (lsub_c rfl (lsub_c rfl lsub_n)))))
set_option maxRecDepth 20000 in
set_option maxHeartbeats 1000000 in
theorem b_X7_laysShares_7 {K : Kt}   (hO : Ok K cX7_laysShares RX7 5 rm_X7_laysShares) (hR : Rt K none)   : ∀ (n : Nat) (x1 : Int32) (x2 : Int32) (x3 : Int32) (σ : Wd) , Cm K 5 (0, 0) (f_X7_laysShares_7  n x1 x2 x3 σ) σ 7 [(0, .ref (K.G.A 102)), (1, .int x1), (2, .int x2), (3, .int x3)] [] := by
  intro n
  induction n with
  | zero => intro x1 x2 x3 σ ; exact r_none
  | succ n ih =>
    intro x1 x2 x3 σ 
    refine r_iload_n (i := 3) hO rfl rfl dX7_laysShares_7 ?_
    refine r_aload_n (i := 0) hO rfl rfl dX7_laysShares_8 ?_
    refine gX7_235 hO dX7_laysShares_9 ?_
    refine r_icmp_ge (tgt := 116) hO dX7_laysShares_12 (by decide) ?_ ?_
    · exact r_vret hO hR dX7_laysShares_116
    · refine r_aload_n (i := 0) hO rfl rfl dX7_laysShares_15 ?_
      refine r_iload_n (i := 3) hO rfl rfl dX7_laysShares_16 ?_
      refine r_iload_n (i := 2) hO rfl rfl dX7_laysShares_17 ?_
      refine r_iload_n (i := 1) hO rfl rfl dX7_laysShares_18 ?_
      refine k_X7_mostAt hO a_669 rfl ⟨rfl, rfl, Nat.le_refl _, Nat.le_refl _⟩ dX7_laysShares_19 ?_
      intro r1 σ2
      refine r_istore hO rfl rfl dX7_laysShares_22 ?_
      exact r_jmp (b_X7_laysShares_24 hO hR ih FU x1 x2 x3 r1 σ2) (lsub_c rfl (lsub_c rfl (lsub_c rfl (lsub_c rfl (lsub_c rfl lsub_n)))))
set_option maxRecDepth 20000 in
set_option maxHeartbeats 1000000 in
theorem b_X7_laysShares {K : Kt}  (hO : Ok K cX7_laysShares RX7 5 rm_X7_laysShares) (hR : Rt K none)  (a1 : Int32) (σ : Wd) : Cm K 5 (0, 0) (f_X7_laysShares a1 σ) σ 0 [(0, .ref (K.G.A 102)), (1, .int a1)] [] := by
  refine r_aload_n (i := 0) hO rfl rfl dX7_laysShares_0 ?_
  refine gX7_305 hO dX7_laysShares_1 ?_
  refine r_istore_n (i := 2) hO rfl rfl rfl dX7_laysShares_4 ?_
  refine r_iconst hO ci_0 dX7_laysShares_5 ?_
  refine r_istore_n (i := 3) hO rfl rfl rfl dX7_laysShares_6 ?_
  exact r_jmp (b_X7_laysShares_7 hO hR FU a1 (σ.1 102 37) (0 : Int32) σ) (lsub_c rfl (lsub_c rfl (lsub_c rfl (lsub_c rfl lsub_n))))
theorem c_X7_laysShares {l : Launch} {G : Gh}   (a1 : Int32) (σ : Wd) : Con l G yX7_laysShares cX7_laysShares 5 none 5 112 [.ref (G.A 102), .int a1] σ (f_X7_laysShares a1 σ) := Con.of (plainFor_of_name (by decide)) rfl (Nat.le_of_ble_eq_true rfl) (fun K hl hG hO hR => by subst hl; subst hG; exact b_X7_laysShares hO hR  a1 σ)
theorem cal_X7_laysShares : CalV yX7_laysShares cX7_laysShares 5 none 1 := ⟨a_674, a_675, a_676, a_464, by decide, by decide, by decide +kernel⟩
theorem k_X7_laysShares {K : Kt} {nL : Nat} {cs : Nat × Nat} {σ : Wd} {pc : Nat} {lv : List (Nat × Value)} {st : List Value} {cc : ByteArray} {own : String} {rm : Room} {index : Nat} {g : Int32 → Wd → Option (Int32 × Wd)} {a1 : Int32} (hO : Ok K cc own nL rm)  (hl : Cond.methodLink own index yX7_laysShares ∈ gtb) (hcat : Nat.ble ((st.map fun v => v.category).sum) 8 = true) (hR : RoomOk rm cs 5 112 5) (d : decode cc pc = .ok (.invokevirtual index, 3)) (kk : ∀ (r : Int32) (σ : Wd), Cm K nL cs (g r σ) σ (pc + 3) lv st) : Cm K nL cs (bd (f_X7_laysShares a1 σ) g) σ pc lv (.int a1 :: .ref (K.G.A 102) :: st) := r_cVv hO (c_X7_laysShares  a1 σ) cal_X7_laysShares hl rfl (by decide) ent_X7 rfl rfl hcat hR d kk
/-! OrderSplitModel.laysBest -/
def f_X7_laysBest_32  (k2 : Int32 → Int32 → Int32 → Wd → Option (Int32 × Wd)) (x1 : Int32) (x2 : Int32) (x3 : Int32) (s1 : Int32) (s2 : Int32) (σ : Wd) : Option (Int32 × Wd) := gd (inb s1 726) (nmW (wi σ 116 (ix s1) s2) fun σ1 => (k2 x1 x2 (x3 + (1 : Int32)) σ1))
def f_X7_laysBest_53  (k46 : Int32 → Int32 → Int32 → Wd → Option (Int32 × Wd)) : Nat → Int32 → Int32 → Int32 → Int32 → Wd → Option (Int32 × Wd)
  | 0 => fun _ _ _ _ _ => none
  | n + 1 => fun x1 x2 x3 x4 σ => if (120 : Int32) < x4 then (k46 x1 x2 (x3 + (-1 : Int32)) σ) else (bd (f_X7_leastFrom x3 x4 x2 σ) fun r1 σ2 => gd (inb (((121 : Int32) * x3) + x4) 726) (nmW (wi σ2 116 (ix (((121 : Int32) * x3) + x4)) r1) fun σ3 => (f_X7_laysBest_53 k46 n x1 x2 x3 (x4 + (1 : Int32)) σ3)))
def f_X7_laysBest_97   : Nat → Int32 → Wd → Option (Int32 × Wd)
  | 0 => fun _ _ => none
  | n + 1 => fun x2 σ => gd (inb (σ.1 102 37) 726) (if (σ.1 116 (ix (σ.1 102 37))) < (50000000 : Int32) then (gd (inb (σ.1 102 37) 726) (nmW (wi σ 102 38 (σ.1 116 (ix (σ.1 102 37)))) fun σ1 => bd (f_X7_laysShares x2 σ1) fun _ σ2 => some (0, σ2))) else (nmW (wi σ 102 37 ((σ.1 102 37) - (1 : Int32))) fun σ3 => (f_X7_laysBest_97 n x2 σ3)))
def f_X7_laysBest_46   : Nat → Int32 → Int32 → Int32 → Wd → Option (Int32 × Wd)
  | 0 => fun _ _ _ _ => none
  | n + 1 => fun x1 x2 x3 σ => if x3 < 0 then (nmW (wi σ 102 37 x1) fun σ1 => (f_X7_laysBest_97 FU x2 σ1)) else (f_X7_laysBest_53 (f_X7_laysBest_46 n) FU x1 x2 x3 (0 : Int32) σ)
def f_X7_laysBest_2   : Nat → Int32 → Int32 → Int32 → Wd → Option (Int32 × Wd)
  | 0 => fun _ _ _ _ => none
  | n + 1 => fun x1 x2 x3 σ => if (120 : Int32) < x3 then (f_X7_laysBest_46 FU x1 x2 ((σ.1 102 14) - (1 : Int32)) σ) else (if x3 = 0 then (f_X7_laysBest_32 (f_X7_laysBest_2 n) x1 x2 x3 (((121 : Int32) * (σ.1 102 14)) + x3) (0 : Int32) σ) else (f_X7_laysBest_32 (f_X7_laysBest_2 n) x1 x2 x3 (((121 : Int32) * (σ.1 102 14)) + x3) (100000000 : Int32) σ))
def f_X7_laysBest (a1 : Int32) (a2 : Int32) (σ : Wd) : Option (Int32 × Wd) := (f_X7_laysBest_2 FU a1 a2 (0 : Int32) σ)
set_option maxRecDepth 20000 in
set_option maxHeartbeats 1000000 in
theorem b_X7_laysBest_32 {K : Kt}  {k2 : Int32 → Int32 → Int32 → Wd → Option (Int32 × Wd)} (hO : Ok K cX7_laysBest RX7 5 rm_X7_laysBest) (hR : Rt K none)   (hk2 : ∀ (x1 : Int32) (x2 : Int32) (x3 : Int32) (σ : Wd), Cm K 5 (0, 0) (k2 x1 x2 x3 σ) σ 2 [(0, .ref (K.G.A 102)), (1, .int x1), (2, .int x2), (3, .int x3)] []) (x1 : Int32) (x2 : Int32) (x3 : Int32) (s1 : Int32) (s2 : Int32) (σ : Wd)  : Cm K 5 (0, 0) (f_X7_laysBest_32 k2 x1 x2 x3 s1 s2 σ) σ 32 [(0, .ref (K.G.A 102)), (1, .int x1), (2, .int x2), (3, .int x3)] [.int s2, .int s1, .ref (K.G.A 116)] := by
  refine r_iast hO s_116 dX7_laysBest_32 ?_
  refine r_nmW fun σ1 => ?_
  refine r_iinc hO rfl ci_1 rfl rfl dX7_laysBest_33 ?_
  refine r_goto (tgt := 2) hO dX7_laysBest_36 (by decide) ?_
  exact r_jmp (hk2 x1 x2 (x3 + (1 : Int32)) σ1) (lsub_c rfl (lsub_c rfl (lsub_c rfl (lsub_c rfl lsub_n))))
set_option maxRecDepth 20000 in
set_option maxHeartbeats 1000000 in
theorem b_X7_laysBest_53 {K : Kt}  {k46 : Int32 → Int32 → Int32 → Wd → Option (Int32 × Wd)} (hO : Ok K cX7_laysBest RX7 5 rm_X7_laysBest) (hR : Rt K none)   (hk46 : ∀ (x1 : Int32) (x2 : Int32) (x3 : Int32) (σ : Wd), Cm K 5 (0, 0) (k46 x1 x2 x3 σ) σ 46 [(0, .ref (K.G.A 102)), (1, .int x1), (2, .int x2), (3, .int x3)] []) : ∀ (n : Nat) (x1 : Int32) (x2 : Int32) (x3 : Int32) (x4 : Int32) (σ : Wd) , Cm K 5 (0, 0) (f_X7_laysBest_53 k46 n x1 x2 x3 x4 σ) σ 53 [(0, .ref (K.G.A 102)), (1, .int x1), (2, .int x2), (3, .int x3), (4, .int x4)] [] := by
  intro n
  induction n with
  | zero => intro x1 x2 x3 x4 σ ; exact r_none
  | succ n ih =>
    intro x1 x2 x3 x4 σ 
    refine r_iload hO (d := dX7_laysBest_53) rfl ?_
    refine r_bipush hO bi_120 dX7_laysBest_55 ?_
    refine r_icmp_gt (tgt := 86) hO dX7_laysBest_57 (by decide) ?_ ?_
    · refine r_iinc hO rfl ci_m1 rfl rfl dX7_laysBest_86 ?_
      refine r_goto (tgt := 46) hO dX7_laysBest_89 (by decide) ?_
      exact r_jmp (hk46 x1 x2 (x3 + (-1 : Int32)) σ) (lsub_c rfl (lsub_c rfl (lsub_c rfl (lsub_c rfl lsub_n))))
    · refine r_aload_n (i := 0) hO rfl rfl dX7_laysBest_60 ?_
      refine gX7_57 hO dX7_laysBest_61 ?_
      refine r_bipush hO bi_121 dX7_laysBest_64 ?_
      refine r_iload_n (i := 3) hO rfl rfl dX7_laysBest_66 ?_
      refine r_imul hO dX7_laysBest_67 ?_
      refine r_iload hO (d := dX7_laysBest_68) rfl ?_
      refine r_iadd hO dX7_laysBest_70 ?_
      refine r_aload_n (i := 0) hO rfl rfl dX7_laysBest_71 ?_
      refine r_iload_n (i := 3) hO rfl rfl dX7_laysBest_72 ?_
      refine r_iload hO (d := dX7_laysBest_73) rfl ?_
      refine r_iload_n (i := 2) hO rfl rfl dX7_laysBest_75 ?_
      refine k_X7_leastFrom hO a_677 rfl ⟨rfl, rfl, Nat.le_refl _, Nat.le_refl _⟩ dX7_laysBest_76 ?_
      intro r1 σ2
      refine r_iast hO s_116 dX7_laysBest_79 ?_
      refine r_nmW fun σ3 => ?_
      refine r_iinc hO rfl ci_1 rfl rfl dX7_laysBest_80 ?_
      refine r_goto (tgt := 53) hO dX7_laysBest_83 (by decide) ?_
      exact r_jmp (ih x1 x2 x3 (x4 + (1 : Int32)) σ3) (lsub_c rfl (lsub_c rfl (lsub_c rfl (lsub_c rfl (lsub_c rfl lsub_n)))))
set_option maxRecDepth 20000 in
set_option maxHeartbeats 1000000 in
theorem b_X7_laysBest_97 {K : Kt}   (hO : Ok K cX7_laysBest RX7 5 rm_X7_laysBest) (hR : Rt K none)   : ∀ (n : Nat) (x2 : Int32) (σ : Wd) , Cm K 5 (0, 0) (f_X7_laysBest_97  n x2 σ) σ 97 [(0, .ref (K.G.A 102)), (2, .int x2)] [] := by
  intro n
  induction n with
  | zero => intro x2 σ ; exact r_none
  | succ n ih =>
    intro x2 σ 
    refine r_aload_n (i := 0) hO rfl rfl dX7_laysBest_97 ?_
    refine gX7_57 hO dX7_laysBest_98 ?_
    refine r_aload_n (i := 0) hO rfl rfl dX7_laysBest_101 ?_
    refine gX7_305 hO dX7_laysBest_102 ?_
    refine r_iald hO s_116 dX7_laysBest_105 ?_
    refine r_ldcw hO a_670 dX7_laysBest_106 ?_
    refine r_icmp_lt (tgt := 125) hO dX7_laysBest_109 (by decide) ?_ ?_
    · refine r_aload_n (i := 0) hO rfl rfl dX7_laysBest_125 ?_
      refine r_aload_n (i := 0) hO rfl rfl dX7_laysBest_126 ?_
      refine gX7_57 hO dX7_laysBest_127 ?_
      refine r_aload_n (i := 0) hO rfl rfl dX7_laysBest_130 ?_
      refine gX7_305 hO dX7_laysBest_131 ?_
      refine r_iald hO s_116 dX7_laysBest_134 ?_
      refine pX7_309 hO dX7_laysBest_135 ?_
      refine r_nmW fun σ1 => ?_
      refine r_aload_n (i := 0) hO rfl rfl dX7_laysBest_138 ?_
      refine r_iload_n (i := 2) hO rfl rfl dX7_laysBest_139 ?_
      refine k_X7_laysShares hO a_678 rfl ⟨rfl, rfl, Nat.le_refl _, Nat.le_refl _⟩ dX7_laysBest_140 ?_
      intro _ σ2
      exact r_vret hO hR dX7_laysBest_143
    · refine r_aload_n (i := 0) hO rfl rfl dX7_laysBest_112 ?_
      refine r_dup hO rfl dX7_laysBest_113 ?_
      refine gX7_305 hO dX7_laysBest_114 ?_
      refine r_iconst hO ci_1 dX7_laysBest_117 ?_
      refine r_isub hO dX7_laysBest_118 ?_
      refine pX7_305 hO dX7_laysBest_119 ?_
      refine r_nmW fun σ3 => ?_
      refine r_goto (tgt := 97) hO dX7_laysBest_122 (by decide) ?_
      exact r_jmp (ih x2 σ3) (lsub_c rfl (lsub_c rfl lsub_n))
set_option maxRecDepth 20000 in
set_option maxHeartbeats 1000000 in
theorem b_X7_laysBest_46 {K : Kt}   (hO : Ok K cX7_laysBest RX7 5 rm_X7_laysBest) (hR : Rt K none)   : ∀ (n : Nat) (x1 : Int32) (x2 : Int32) (x3 : Int32) (σ : Wd) , Cm K 5 (0, 0) (f_X7_laysBest_46  n x1 x2 x3 σ) σ 46 [(0, .ref (K.G.A 102)), (1, .int x1), (2, .int x2), (3, .int x3)] [] := by
  intro n
  induction n with
  | zero => intro x1 x2 x3 σ ; exact r_none
  | succ n ih =>
    intro x1 x2 x3 σ 
    refine r_iload_n (i := 3) hO rfl rfl dX7_laysBest_46 ?_
    refine r_if_lt (tgt := 92) hO dX7_laysBest_47 (by decide) ?_ ?_
    · refine r_aload_n (i := 0) hO rfl rfl dX7_laysBest_92 ?_
      refine r_iload_n (i := 1) hO rfl rfl dX7_laysBest_93 ?_
      refine pX7_305 hO dX7_laysBest_94 ?_
      refine r_nmW fun σ1 => ?_
      exact r_jmp (b_X7_laysBest_97 hO hR FU x2 σ1) (lsub_c rfl (lsub_c rfl lsub_n))
    · refine r_iconst hO ci_0 dX7_laysBest_50 ?_
      refine r_istore hO rfl rfl dX7_laysBest_51 ?_
      exact r_jmp (b_X7_laysBest_53 hO hR ih FU x1 x2 x3 (0 : Int32) σ) (lsub_c rfl (lsub_c rfl (lsub_c rfl (lsub_c rfl (lsub_c rfl lsub_n)))))
set_option maxRecDepth 20000 in
set_option maxHeartbeats 1000000 in
theorem b_X7_laysBest_2 {K : Kt}   (hO : Ok K cX7_laysBest RX7 5 rm_X7_laysBest) (hR : Rt K none)   : ∀ (n : Nat) (x1 : Int32) (x2 : Int32) (x3 : Int32) (σ : Wd) , Cm K 5 (0, 0) (f_X7_laysBest_2  n x1 x2 x3 σ) σ 2 [(0, .ref (K.G.A 102)), (1, .int x1), (2, .int x2), (3, .int x3)] [] := by
  intro n
  induction n with
  | zero => intro x1 x2 x3 σ ; exact r_none
  | succ n ih =>
    intro x1 x2 x3 σ 
    refine r_iload_n (i := 3) hO rfl rfl dX7_laysBest_2 ?_
    refine r_bipush hO bi_120 dX7_laysBest_3 ?_
    refine r_icmp_gt (tgt := 39) hO dX7_laysBest_5 (by decide) ?_ ?_
    · refine r_aload_n (i := 0) hO rfl rfl dX7_laysBest_39 ?_
      refine gX7_235 hO dX7_laysBest_40 ?_
      refine r_iconst hO ci_1 dX7_laysBest_43 ?_
      refine r_isub hO dX7_laysBest_44 ?_
      refine r_istore_n (i := 3) hO rfl rfl rfl dX7_laysBest_45 ?_
      exact r_jmp (b_X7_laysBest_46 hO hR FU x1 x2 ((σ.1 102 14) - (1 : Int32)) σ) (lsub_c rfl (lsub_c rfl (lsub_c rfl (lsub_c rfl lsub_n))))
    · refine r_aload_n (i := 0) hO rfl rfl dX7_laysBest_8 ?_
      refine gX7_57 hO dX7_laysBest_9 ?_
      refine r_bipush hO bi_121 dX7_laysBest_12 ?_
      refine r_aload_n (i := 0) hO rfl rfl dX7_laysBest_14 ?_
      refine gX7_235 hO dX7_laysBest_15 ?_
      refine r_imul hO dX7_laysBest_18 ?_
      refine r_iload_n (i := 3) hO rfl rfl dX7_laysBest_19 ?_
      refine r_iadd hO dX7_laysBest_20 ?_
      refine r_iload_n (i := 3) hO rfl rfl dX7_laysBest_21 ?_
      refine r_if_ne (tgt := 29) hO dX7_laysBest_22 (by decide) ?_ ?_
      · refine r_iconst hO ci_0 dX7_laysBest_25 ?_
        refine r_goto (tgt := 32) hO dX7_laysBest_26 (by decide) ?_
        exact r_jmp (b_X7_laysBest_32 hO hR ih x1 x2 x3 (((121 : Int32) * (σ.1 102 14)) + x3) (0 : Int32) σ) (lsub_c rfl (lsub_c rfl (lsub_c rfl (lsub_c rfl lsub_n))))
      · refine r_ldcw hO a_668 dX7_laysBest_29 ?_
        exact r_jmp (b_X7_laysBest_32 hO hR ih x1 x2 x3 (((121 : Int32) * (σ.1 102 14)) + x3) (100000000 : Int32) σ) (lsub_c rfl (lsub_c rfl (lsub_c rfl (lsub_c rfl lsub_n))))
set_option maxRecDepth 20000 in
set_option maxHeartbeats 1000000 in
theorem b_X7_laysBest {K : Kt}  (hO : Ok K cX7_laysBest RX7 5 rm_X7_laysBest) (hR : Rt K none)  (a1 : Int32) (a2 : Int32) (σ : Wd) : Cm K 5 (0, 0) (f_X7_laysBest a1 a2 σ) σ 0 [(0, .ref (K.G.A 102)), (1, .int a1), (2, .int a2)] [] := by
  refine r_iconst hO ci_0 dX7_laysBest_0 ?_
  refine r_istore_n (i := 3) hO rfl rfl rfl dX7_laysBest_1 ?_
  exact r_jmp (b_X7_laysBest_2 hO hR FU a1 a2 (0 : Int32) σ) (lsub_c rfl (lsub_c rfl (lsub_c rfl (lsub_c rfl lsub_n))))
theorem c_X7_laysBest {l : Launch} {G : Gh}   (a1 : Int32) (a2 : Int32) (σ : Wd) : Con l G yX7_laysBest cX7_laysBest 5 none 6 139 [.ref (G.A 102), .int a1, .int a2] σ (f_X7_laysBest a1 a2 σ) := Con.of (plainFor_of_name (by decide)) rfl (Nat.le_of_ble_eq_true rfl) (fun K hl hG hO hR => by subst hl; subst hG; exact b_X7_laysBest hO hR  a1 a2 σ)
theorem cal_X7_laysBest : CalV yX7_laysBest cX7_laysBest 5 none 2 := ⟨a_679, a_680, a_681, a_464, by decide, by decide, by decide +kernel⟩
theorem k_X7_laysBest {K : Kt} {nL : Nat} {cs : Nat × Nat} {σ : Wd} {pc : Nat} {lv : List (Nat × Value)} {st : List Value} {cc : ByteArray} {own : String} {rm : Room} {index : Nat} {g : Int32 → Wd → Option (Int32 × Wd)} {a1 : Int32} {a2 : Int32} (hO : Ok K cc own nL rm)  (hl : Cond.methodLink own index yX7_laysBest ∈ gtb) (hcat : Nat.ble ((st.map fun v => v.category).sum) 8 = true) (hR : RoomOk rm cs 6 139 5) (d : decode cc pc = .ok (.invokevirtual index, 3)) (kk : ∀ (r : Int32) (σ : Wd), Cm K nL cs (g r σ) σ (pc + 3) lv st) : Cm K nL cs (bd (f_X7_laysBest a1 a2 σ) g) σ pc lv (.int a2 :: .int a1 :: .ref (K.G.A 102) :: st) := r_cVv hO (c_X7_laysBest  a1 a2 σ) cal_X7_laysBest hl rfl (by decide) ent_X7 rfl rfl hcat hR d kk
/-! OrderSplitModel.refusesQ -/
def f_X7_refusesQ_30   (s0 : Int32) (σ : Wd) : Option (Int32 × Wd) := some (s0, σ)
def f_X7_refusesQ_11    (σ : Wd) : Option (Int32 × Wd) := (f_X7_refusesQ_30 (1 : Int32) σ)
def f_X7_refusesQ (a1 : Int32) (a2 : Int32) (σ : Wd) : Option (Int32 × Wd) := if (σ.1 102 21) = 0 then (f_X7_refusesQ_11 σ) else (if a1 = 0 then (f_X7_refusesQ_11 σ) else (bd (f_X7_in a2 (1 : Int32) (120 : Int32) σ) fun r1 σ2 => if r1 = 0 then (f_X7_refusesQ_30 (2 : Int32) σ2) else (f_X7_refusesQ_30 (0 : Int32) σ2)))
set_option maxRecDepth 20000 in
set_option maxHeartbeats 1000000 in
theorem b_X7_refusesQ_30 {K : Kt}   (hO : Ok K cX7_refusesQ RX7 3 rm_X7_refusesQ) (hR : Rt K (some .int))   (s0 : Int32) (σ : Wd)  : Cm K 3 (0, 0) (f_X7_refusesQ_30  s0 σ) σ 30 [] [.int s0] := by
  exact r_iret hO hR dX7_refusesQ_30
set_option maxRecDepth 20000 in
set_option maxHeartbeats 1000000 in
theorem b_X7_refusesQ_11 {K : Kt}   (hO : Ok K cX7_refusesQ RX7 3 rm_X7_refusesQ) (hR : Rt K (some .int))    (σ : Wd)  : Cm K 3 (0, 0) (f_X7_refusesQ_11   σ) σ 11 [] [] := by
  refine r_iconst hO ci_1 dX7_refusesQ_11 ?_
  refine r_goto (tgt := 30) hO dX7_refusesQ_12 (by decide) ?_
  exact r_jmp (b_X7_refusesQ_30 hO hR (1 : Int32) σ) lsub_n
set_option maxRecDepth 20000 in
set_option maxHeartbeats 1000000 in
theorem b_X7_refusesQ {K : Kt}  (hO : Ok K cX7_refusesQ RX7 3 rm_X7_refusesQ) (hR : Rt K (some .int))  (a1 : Int32) (a2 : Int32) (σ : Wd) : Cm K 3 (0, 0) (f_X7_refusesQ a1 a2 σ) σ 0 [(0, .ref (K.G.A 102)), (1, .int a1), (2, .int a2)] [] := by
  refine r_aload_n (i := 0) hO rfl rfl dX7_refusesQ_0 ?_
  refine gX7_241 hO dX7_refusesQ_1 ?_
  refine r_if_eq (tgt := 11) hO dX7_refusesQ_4 (by decide) ?_ ?_
  · exact r_jmp (b_X7_refusesQ_11 hO hR σ) lsub_n
  · refine r_iload_n (i := 1) hO rfl rfl dX7_refusesQ_7 ?_
    refine r_if_ne (tgt := 15) hO dX7_refusesQ_8 (by decide) ?_ ?_
    · exact r_jmp (b_X7_refusesQ_11 hO hR σ) lsub_n
    · refine r_iload_n (i := 2) hO rfl rfl dX7_refusesQ_15 ?_
      refine r_iconst hO ci_1 dX7_refusesQ_16 ?_
      refine r_bipush hO bi_120 dX7_refusesQ_17 ?_
      refine k_X7_in hO a_483 rfl ⟨rfl, rfl, Nat.le_refl _, Nat.le_refl _⟩ dX7_refusesQ_19 ?_
      intro r1 σ2
      refine r_if_eq (tgt := 29) hO dX7_refusesQ_22 (by decide) ?_ ?_
      · refine r_iconst hO ci_2 dX7_refusesQ_29 ?_
        exact r_jmp (b_X7_refusesQ_30 hO hR (2 : Int32) σ2) lsub_n
      · refine r_iconst hO ci_0 dX7_refusesQ_25 ?_
        refine r_goto (tgt := 30) hO dX7_refusesQ_26 (by decide) ?_
        exact r_jmp (b_X7_refusesQ_30 hO hR (0 : Int32) σ2) lsub_n
theorem c_X7_refusesQ {l : Launch} {G : Gh}   (a1 : Int32) (a2 : Int32) (σ : Wd) : Con l G yX7_refusesQ cX7_refusesQ 3 (some .int) 1 22 [.ref (G.A 102), .int a1, .int a2] σ (f_X7_refusesQ a1 a2 σ) := Con.of (plainFor_of_name (by decide)) rfl (Nat.le_of_ble_eq_true rfl) (fun K hl hG hO hR => by subst hl; subst hG; exact b_X7_refusesQ hO hR  a1 a2 σ)
theorem cal_X7_refusesQ : CalV yX7_refusesQ cX7_refusesQ 3 (some .int) 2 := ⟨a_682, a_683, a_684, a_464, by decide, by decide, by decide +kernel⟩
theorem k_X7_refusesQ {K : Kt} {nL : Nat} {cs : Nat × Nat} {σ : Wd} {pc : Nat} {lv : List (Nat × Value)} {st : List Value} {cc : ByteArray} {own : String} {rm : Room} {index : Nat} {g : Int32 → Wd → Option (Int32 × Wd)} {a1 : Int32} {a2 : Int32} (hO : Ok K cc own nL rm)  (hl : Cond.methodLink own index yX7_refusesQ ∈ gtb) (hcat : Nat.ble ((st.map fun v => v.category).sum) 8 = true) (hR : RoomOk rm cs 1 22 3) (d : decode cc pc = .ok (.invokevirtual index, 3)) (kk : ∀ (r : Int32) (σ : Wd), Cm K nL cs (g r σ) σ (pc + 3) lv (.int r :: st)) : Cm K nL cs (bd (f_X7_refusesQ a1 a2 σ) g) σ pc lv (.int a2 :: .int a1 :: .ref (K.G.A 102) :: st) := r_cVi hO (c_X7_refusesQ  a1 a2 σ) cal_X7_refusesQ hl rfl (by decide) ent_X7 rfl rfl hcat hR d kk
/-! OrderSplitModel.units -/
def f_X7_units (a1 : Int32) (σ : Wd) : Option (Int32 × Wd) := nmW (wi σ 102 0 (0 : Int32)) fun σ1 => bd (f_X7_refusesQ (1 : Int32) a1 σ1) fun r2 σ3 => if r2 ≤ 0 then (bd (f_X7_laysBest a1 (-1 : Int32) σ3) fun _ σ4 => bd (f_X7_good (σ4.1 102 37) σ4) fun r5 σ6 => some (r5, σ6)) else (bd (f_X7_refused r2 σ3) fun r7 σ8 => some (r7, σ8))
set_option maxRecDepth 20000 in
set_option maxHeartbeats 1000000 in
theorem b_X7_units {K : Kt}  (hO : Ok K cX7_units RX7 3 rm_X7_units) (hR : Rt K (some .int))  (a1 : Int32) (σ : Wd) : Cm K 3 (0, 0) (f_X7_units a1 σ) σ 0 [(0, .ref (K.G.A 102)), (1, .int a1)] [] := by
  refine r_aload_n (i := 0) hO rfl rfl dX7_units_0 ?_
  refine r_iconst hO ci_0 dX7_units_1 ?_
  refine pX7_70 hO dX7_units_2 ?_
  refine r_nmW fun σ1 => ?_
  refine r_aload_n (i := 0) hO rfl rfl dX7_units_5 ?_
  refine r_iconst hO ci_1 dX7_units_6 ?_
  refine r_iload_n (i := 1) hO rfl rfl dX7_units_7 ?_
  refine k_X7_refusesQ hO a_685 rfl ⟨rfl, rfl, Nat.le_refl _, Nat.le_refl _⟩ dX7_units_8 ?_
  intro r2 σ3
  refine r_istore_n (i := 2) hO rfl rfl rfl dX7_units_11 ?_
  refine r_iload_n (i := 2) hO rfl rfl dX7_units_12 ?_
  refine r_if_le (tgt := 22) hO dX7_units_13 (by decide) ?_ ?_
  · refine r_aload_n (i := 0) hO rfl rfl dX7_units_22 ?_
    refine r_iload_n (i := 1) hO rfl rfl dX7_units_23 ?_
    refine r_iconst hO ci_m1 dX7_units_24 ?_
    refine k_X7_laysBest hO a_686 rfl ⟨rfl, rfl, Nat.le_refl _, Nat.le_refl _⟩ dX7_units_25 ?_
    intro _ σ4
    refine r_aload_n (i := 0) hO rfl rfl dX7_units_28 ?_
    refine r_aload_n (i := 0) hO rfl rfl dX7_units_29 ?_
    refine gX7_305 hO dX7_units_30 ?_
    refine k_X7_good hO a_592 rfl ⟨rfl, rfl, Nat.le_refl _, Nat.le_refl _⟩ dX7_units_33 ?_
    intro r5 σ6
    exact r_iret hO hR dX7_units_36
  · refine r_aload_n (i := 0) hO rfl rfl dX7_units_16 ?_
    refine r_iload_n (i := 2) hO rfl rfl dX7_units_17 ?_
    refine k_X7_refused hO a_465 rfl ⟨rfl, rfl, Nat.le_refl _, Nat.le_refl _⟩ dX7_units_18 ?_
    intro r7 σ8
    exact r_iret hO hR dX7_units_21
theorem c_X7_units {l : Launch} {G : Gh}   (a1 : Int32) (σ : Wd) : Con l G yX7_units cX7_units 3 (some .int) 7 163 [.ref (G.A 102), .int a1] σ (f_X7_units a1 σ) := Con.of (plainFor_of_name (by decide)) rfl (Nat.le_of_ble_eq_true rfl) (fun K hl hG hO hR => by subst hl; subst hG; exact b_X7_units hO hR  a1 σ)
theorem cal_X7_units : CalV yX7_units cX7_units 3 (some .int) 1 := ⟨a_687, a_688, a_689, a_464, by decide, by decide, by decide +kernel⟩
theorem k_X7_units {K : Kt} {nL : Nat} {cs : Nat × Nat} {σ : Wd} {pc : Nat} {lv : List (Nat × Value)} {st : List Value} {cc : ByteArray} {own : String} {rm : Room} {index : Nat} {g : Int32 → Wd → Option (Int32 × Wd)} {a1 : Int32} (hO : Ok K cc own nL rm)  (hl : Cond.methodLink own index yX7_units ∈ gtb) (hcat : Nat.ble ((st.map fun v => v.category).sum) 8 = true) (hR : RoomOk rm cs 7 163 3) (d : decode cc pc = .ok (.invokevirtual index, 3)) (kk : ∀ (r : Int32) (σ : Wd), Cm K nL cs (g r σ) σ (pc + 3) lv (.int r :: st)) : Cm K nL cs (bd (f_X7_units a1 σ) g) σ pc lv (.int a1 :: .ref (K.G.A 102) :: st) := r_cVi hO (c_X7_units  a1 σ) cal_X7_units hl rfl (by decide) ent_X7 rfl rfl hcat hR d kk
/-! OrderSplitModel.best -/
def f_X7_best (a1 : Int32) (σ : Wd) : Option (Int32 × Wd) := nmW (wi σ 102 0 (0 : Int32)) fun σ1 => bd (f_X7_refusesQ (1 : Int32) a1 σ1) fun r2 σ3 => if r2 ≤ 0 then (bd (f_X7_laysBest a1 (-1 : Int32) σ3) fun _ σ4 => bd (f_X7_good (σ4.1 102 38) σ4) fun r5 σ6 => some (r5, σ6)) else (bd (f_X7_refusedLow r2 σ3) fun r7 σ8 => some (r7, σ8))
set_option maxRecDepth 20000 in
set_option maxHeartbeats 1000000 in
theorem b_X7_best {K : Kt}  (hO : Ok K cX7_best RX7 3 rm_X7_best) (hR : Rt K (some .int))  (a1 : Int32) (σ : Wd) : Cm K 3 (0, 0) (f_X7_best a1 σ) σ 0 [(0, .ref (K.G.A 102)), (1, .int a1)] [] := by
  refine r_aload_n (i := 0) hO rfl rfl dX7_best_0 ?_
  refine r_iconst hO ci_0 dX7_best_1 ?_
  refine pX7_70 hO dX7_best_2 ?_
  refine r_nmW fun σ1 => ?_
  refine r_aload_n (i := 0) hO rfl rfl dX7_best_5 ?_
  refine r_iconst hO ci_1 dX7_best_6 ?_
  refine r_iload_n (i := 1) hO rfl rfl dX7_best_7 ?_
  refine k_X7_refusesQ hO a_685 rfl ⟨rfl, rfl, Nat.le_refl _, Nat.le_refl _⟩ dX7_best_8 ?_
  intro r2 σ3
  refine r_istore_n (i := 2) hO rfl rfl rfl dX7_best_11 ?_
  refine r_iload_n (i := 2) hO rfl rfl dX7_best_12 ?_
  refine r_if_le (tgt := 22) hO dX7_best_13 (by decide) ?_ ?_
  · refine r_aload_n (i := 0) hO rfl rfl dX7_best_22 ?_
    refine r_iload_n (i := 1) hO rfl rfl dX7_best_23 ?_
    refine r_iconst hO ci_m1 dX7_best_24 ?_
    refine k_X7_laysBest hO a_686 rfl ⟨rfl, rfl, Nat.le_refl _, Nat.le_refl _⟩ dX7_best_25 ?_
    intro _ σ4
    refine r_aload_n (i := 0) hO rfl rfl dX7_best_28 ?_
    refine r_aload_n (i := 0) hO rfl rfl dX7_best_29 ?_
    refine gX7_309 hO dX7_best_30 ?_
    refine k_X7_good hO a_592 rfl ⟨rfl, rfl, Nat.le_refl _, Nat.le_refl _⟩ dX7_best_33 ?_
    intro r5 σ6
    exact r_iret hO hR dX7_best_36
  · refine r_aload_n (i := 0) hO rfl rfl dX7_best_16 ?_
    refine r_iload_n (i := 2) hO rfl rfl dX7_best_17 ?_
    refine k_X7_refusedLow hO a_642 rfl ⟨rfl, rfl, Nat.le_refl _, Nat.le_refl _⟩ dX7_best_18 ?_
    intro r7 σ8
    exact r_iret hO hR dX7_best_21
theorem c_X7_best {l : Launch} {G : Gh}   (a1 : Int32) (σ : Wd) : Con l G yX7_best cX7_best 3 (some .int) 7 163 [.ref (G.A 102), .int a1] σ (f_X7_best a1 σ) := Con.of (plainFor_of_name (by decide)) rfl (Nat.le_of_ble_eq_true rfl) (fun K hl hG hO hR => by subst hl; subst hG; exact b_X7_best hO hR  a1 σ)
theorem cal_X7_best : CalV yX7_best cX7_best 3 (some .int) 1 := ⟨a_690, a_691, a_692, a_464, by decide, by decide, by decide +kernel⟩
theorem k_X7_best {K : Kt} {nL : Nat} {cs : Nat × Nat} {σ : Wd} {pc : Nat} {lv : List (Nat × Value)} {st : List Value} {cc : ByteArray} {own : String} {rm : Room} {index : Nat} {g : Int32 → Wd → Option (Int32 × Wd)} {a1 : Int32} (hO : Ok K cc own nL rm)  (hl : Cond.methodLink own index yX7_best ∈ gtb) (hcat : Nat.ble ((st.map fun v => v.category).sum) 8 = true) (hR : RoomOk rm cs 7 163 3) (d : decode cc pc = .ok (.invokevirtual index, 3)) (kk : ∀ (r : Int32) (σ : Wd), Cm K nL cs (g r σ) σ (pc + 3) lv (.int r :: st)) : Cm K nL cs (bd (f_X7_best a1 σ) g) σ pc lv (.int a1 :: .ref (K.G.A 102) :: st) := r_cVi hO (c_X7_best  a1 σ) cal_X7_best hl rfl (by decide) ent_X7 rfl rfl hcat hR d kk
/-! OrderSplitModel.share -/
def f_X7_share (a1 : Int32) (a2 : Int32) (σ : Wd) : Option (Int32 × Wd) := nmW (wi σ 102 0 (0 : Int32)) fun σ1 => bd (f_X7_isVenue a2 σ1) fun r2 σ3 => bd (f_X7_refusesQ r2 a1 σ3) fun r4 σ5 => if r4 ≤ 0 then (bd (f_X7_laysBest a1 (-1 : Int32) σ5) fun _ σ6 => gd (inb a2 5) (bd (f_X7_good (σ6.1 117 (ix a2)) σ6) fun r7 σ8 => some (r7, σ8))) else (bd (f_X7_refused r4 σ5) fun r9 σ10 => some (r9, σ10))
set_option maxRecDepth 20000 in
set_option maxHeartbeats 1000000 in
theorem b_X7_share {K : Kt}  (hO : Ok K cX7_share RX7 4 rm_X7_share) (hR : Rt K (some .int))  (a1 : Int32) (a2 : Int32) (σ : Wd) : Cm K 4 (0, 0) (f_X7_share a1 a2 σ) σ 0 [(0, .ref (K.G.A 102)), (1, .int a1), (2, .int a2)] [] := by
  refine r_aload_n (i := 0) hO rfl rfl dX7_share_0 ?_
  refine r_iconst hO ci_0 dX7_share_1 ?_
  refine pX7_70 hO dX7_share_2 ?_
  refine r_nmW fun σ1 => ?_
  refine r_aload_n (i := 0) hO rfl rfl dX7_share_5 ?_
  refine r_aload_n (i := 0) hO rfl rfl dX7_share_6 ?_
  refine r_iload_n (i := 2) hO rfl rfl dX7_share_7 ?_
  refine k_X7_isVenue hO a_641 rfl ⟨rfl, rfl, Nat.le_refl _, Nat.le_refl _⟩ dX7_share_8 ?_
  intro r2 σ3
  refine r_iload_n (i := 1) hO rfl rfl dX7_share_11 ?_
  refine k_X7_refusesQ hO a_685 rfl ⟨rfl, rfl, Nat.le_refl _, Nat.le_refl _⟩ dX7_share_12 ?_
  intro r4 σ5
  refine r_istore_n (i := 3) hO rfl rfl rfl dX7_share_15 ?_
  refine r_iload_n (i := 3) hO rfl rfl dX7_share_16 ?_
  refine r_if_le (tgt := 26) hO dX7_share_17 (by decide) ?_ ?_
  · refine r_aload_n (i := 0) hO rfl rfl dX7_share_26 ?_
    refine r_iload_n (i := 1) hO rfl rfl dX7_share_27 ?_
    refine r_iconst hO ci_m1 dX7_share_28 ?_
    refine k_X7_laysBest hO a_686 rfl ⟨rfl, rfl, Nat.le_refl _, Nat.le_refl _⟩ dX7_share_29 ?_
    intro _ σ6
    refine r_aload_n (i := 0) hO rfl rfl dX7_share_32 ?_
    refine r_aload_n (i := 0) hO rfl rfl dX7_share_33 ?_
    refine gX7_60 hO dX7_share_34 ?_
    refine r_iload_n (i := 2) hO rfl rfl dX7_share_37 ?_
    refine r_iald hO s_117 dX7_share_38 ?_
    refine k_X7_good hO a_592 rfl ⟨rfl, rfl, Nat.le_refl _, Nat.le_refl _⟩ dX7_share_39 ?_
    intro r7 σ8
    exact r_iret hO hR dX7_share_42
  · refine r_aload_n (i := 0) hO rfl rfl dX7_share_20 ?_
    refine r_iload_n (i := 3) hO rfl rfl dX7_share_21 ?_
    refine k_X7_refused hO a_465 rfl ⟨rfl, rfl, Nat.le_refl _, Nat.le_refl _⟩ dX7_share_22 ?_
    intro r9 σ10
    exact r_iret hO hR dX7_share_25
theorem c_X7_share {l : Launch} {G : Gh}   (a1 : Int32) (a2 : Int32) (σ : Wd) : Con l G yX7_share cX7_share 4 (some .int) 7 163 [.ref (G.A 102), .int a1, .int a2] σ (f_X7_share a1 a2 σ) := Con.of (plainFor_of_name (by decide)) rfl (Nat.le_of_ble_eq_true rfl) (fun K hl hG hO hR => by subst hl; subst hG; exact b_X7_share hO hR  a1 a2 σ)
theorem cal_X7_share : CalV yX7_share cX7_share 4 (some .int) 2 := ⟨a_693, a_694, a_695, a_464, by decide, by decide, by decide +kernel⟩
theorem k_X7_share {K : Kt} {nL : Nat} {cs : Nat × Nat} {σ : Wd} {pc : Nat} {lv : List (Nat × Value)} {st : List Value} {cc : ByteArray} {own : String} {rm : Room} {index : Nat} {g : Int32 → Wd → Option (Int32 × Wd)} {a1 : Int32} {a2 : Int32} (hO : Ok K cc own nL rm)  (hl : Cond.methodLink own index yX7_share ∈ gtb) (hcat : Nat.ble ((st.map fun v => v.category).sum) 8 = true) (hR : RoomOk rm cs 7 163 4) (d : decode cc pc = .ok (.invokevirtual index, 3)) (kk : ∀ (r : Int32) (σ : Wd), Cm K nL cs (g r σ) σ (pc + 3) lv (.int r :: st)) : Cm K nL cs (bd (f_X7_share a1 a2 σ) g) σ pc lv (.int a2 :: .int a1 :: .ref (K.G.A 102) :: st) := r_cVi hO (c_X7_share  a1 a2 σ) cal_X7_share hl rfl (by decide) ent_X7 rfl rfl hcat hR d kk
/-! OrderSplitModel.worthAt -/
def f_X7_worthAt_52   (x1 : Int32) (x2 : Int32) (s0 : Int32) (σ : Wd) : Option (Int32 × Wd) := bd (f_X7_priceOf x1 x2 σ) fun r1 σ2 => some (r1 + s0, σ2)
def f_X7_worthAt_51   (x1 : Int32) (x2 : Int32) (x3 : Int32) (σ : Wd) : Option (Int32 × Wd) := (f_X7_worthAt_52 x1 x2 x3 σ)
def f_X7_worthAt (a1 : Int32) (a2 : Int32) (σ : Wd) : Option (Int32 × Wd) := gd (inb ((30 : Int32) + a1) 179) (bd (f_X7_told a1 (0 : Int32) σ) fun r1 σ2 => if r1 = (2 : Int32) then (f_X7_worthAt_52 a1 a2 (0 : Int32) σ2) else (bd (f_X7_told a1 (0 : Int32) σ2) fun r3 σ4 => if r3 = (1 : Int32) then (bd (f_X7_lower (σ.1 112 (ix ((30 : Int32) + a1))) (2 : Int32) σ4) fun r5 σ6 => if (σ.1 112 (ix ((30 : Int32) + a1))) ≤ r5 then (f_X7_worthAt_51 a1 a2 (σ.1 112 (ix ((30 : Int32) + a1))) σ6) else (bd (f_X7_lower (σ.1 112 (ix ((30 : Int32) + a1))) (2 : Int32) σ6) fun r7 σ8 => (f_X7_worthAt_52 a1 a2 r7 σ8))) else (f_X7_worthAt_51 a1 a2 (σ.1 112 (ix ((30 : Int32) + a1))) σ4)))
set_option maxRecDepth 20000 in
set_option maxHeartbeats 1000000 in
theorem b_X7_worthAt_52 {K : Kt}   (hO : Ok K cX7_worthAt RX7 5 rm_X7_worthAt) (hR : Rt K (some .int))   (x1 : Int32) (x2 : Int32) (s0 : Int32) (σ : Wd)  : Cm K 5 (0, 0) (f_X7_worthAt_52  x1 x2 s0 σ) σ 52 [(0, .ref (K.G.A 102)), (1, .int x1), (2, .int x2)] [.int s0] := by
  refine r_istore hO rfl rfl dX7_worthAt_52 ?_
  refine r_aload_n (i := 0) hO rfl rfl dX7_worthAt_54 ?_
  refine r_iload_n (i := 1) hO rfl rfl dX7_worthAt_55 ?_
  refine r_iload_n (i := 2) hO rfl rfl dX7_worthAt_56 ?_
  refine k_X7_priceOf hO a_617 rfl ⟨rfl, rfl, Nat.le_refl _, Nat.le_refl _⟩ dX7_worthAt_57 ?_
  intro r1 σ2
  refine r_iload hO (d := dX7_worthAt_60) rfl ?_
  refine r_iadd hO dX7_worthAt_62 ?_
  exact r_iret hO hR dX7_worthAt_63
set_option maxRecDepth 20000 in
set_option maxHeartbeats 1000000 in
theorem b_X7_worthAt_51 {K : Kt}   (hO : Ok K cX7_worthAt RX7 5 rm_X7_worthAt) (hR : Rt K (some .int))   (x1 : Int32) (x2 : Int32) (x3 : Int32) (σ : Wd)  : Cm K 5 (0, 0) (f_X7_worthAt_51  x1 x2 x3 σ) σ 51 [(0, .ref (K.G.A 102)), (1, .int x1), (2, .int x2), (3, .int x3)] [] := by
  refine r_iload_n (i := 3) hO rfl rfl dX7_worthAt_51 ?_
  exact r_jmp (b_X7_worthAt_52 hO hR x1 x2 x3 σ) (lsub_c rfl (lsub_c rfl (lsub_c rfl lsub_n)))
set_option maxRecDepth 20000 in
set_option maxHeartbeats 1000000 in
theorem b_X7_worthAt {K : Kt}  (hO : Ok K cX7_worthAt RX7 5 rm_X7_worthAt) (hR : Rt K (some .int))  (a1 : Int32) (a2 : Int32) (σ : Wd) : Cm K 5 (0, 0) (f_X7_worthAt a1 a2 σ) σ 0 [(0, .ref (K.G.A 102)), (1, .int a1), (2, .int a2)] [] := by
  refine r_aload_n (i := 0) hO rfl rfl dX7_worthAt_0 ?_
  refine gX7_44 hO dX7_worthAt_1 ?_
  refine r_bipush hO bi_30 dX7_worthAt_4 ?_
  refine r_iload_n (i := 1) hO rfl rfl dX7_worthAt_6 ?_
  refine r_iadd hO dX7_worthAt_7 ?_
  refine r_iald hO s_112 dX7_worthAt_8 ?_
  refine r_istore_n (i := 3) hO rfl rfl rfl dX7_worthAt_9 ?_
  refine r_aload_n (i := 0) hO rfl rfl dX7_worthAt_10 ?_
  refine r_iload_n (i := 1) hO rfl rfl dX7_worthAt_11 ?_
  refine r_iconst hO ci_0 dX7_worthAt_12 ?_
  refine k_X7_told hO a_575 rfl ⟨rfl, rfl, Nat.le_refl _, Nat.le_refl _⟩ dX7_worthAt_13 ?_
  intro r1 σ2
  refine r_iconst hO ci_2 dX7_worthAt_16 ?_
  refine r_icmp_ne (tgt := 24) hO dX7_worthAt_17 (by decide) ?_ ?_
  · refine r_iconst hO ci_0 dX7_worthAt_20 ?_
    refine r_goto (tgt := 52) hO dX7_worthAt_21 (by decide) ?_
    exact r_jmp (b_X7_worthAt_52 hO hR a1 a2 (0 : Int32) σ2) (lsub_c rfl (lsub_c rfl (lsub_c rfl lsub_n)))
  · refine r_aload_n (i := 0) hO rfl rfl dX7_worthAt_24 ?_
    refine r_iload_n (i := 1) hO rfl rfl dX7_worthAt_25 ?_
    refine r_iconst hO ci_0 dX7_worthAt_26 ?_
    refine k_X7_told hO a_575 rfl ⟨rfl, rfl, Nat.le_refl _, Nat.le_refl _⟩ dX7_worthAt_27 ?_
    intro r3 σ4
    refine r_iconst hO ci_1 dX7_worthAt_30 ?_
    refine r_icmp_ne (tgt := 51) hO dX7_worthAt_31 (by decide) ?_ ?_
    · refine r_iload_n (i := 3) hO rfl rfl dX7_worthAt_34 ?_
      refine r_iconst hO ci_2 dX7_worthAt_35 ?_
      refine k_X7_lower hO a_626 rfl ⟨rfl, rfl, Nat.le_refl _, Nat.le_refl _⟩ dX7_worthAt_36 ?_
      intro r5 σ6
      refine r_iload_n (i := 3) hO rfl rfl dX7_worthAt_39 ?_
      refine r_icmp_ge (tgt := 51) hO dX7_worthAt_40 (by decide) ?_ ?_
      · exact r_jmp (b_X7_worthAt_51 hO hR a1 a2 (σ.1 112 (ix ((30 : Int32) + a1))) σ6) (lsub_c rfl (lsub_c rfl (lsub_c rfl (lsub_c rfl lsub_n))))
      · refine r_iload_n (i := 3) hO rfl rfl dX7_worthAt_43 ?_
        refine r_iconst hO ci_2 dX7_worthAt_44 ?_
        refine k_X7_lower hO a_626 rfl ⟨rfl, rfl, Nat.le_refl _, Nat.le_refl _⟩ dX7_worthAt_45 ?_
        intro r7 σ8
        refine r_goto (tgt := 52) hO dX7_worthAt_48 (by decide) ?_
        exact r_jmp (b_X7_worthAt_52 hO hR a1 a2 r7 σ8) (lsub_c rfl (lsub_c rfl (lsub_c rfl lsub_n)))
    · exact r_jmp (b_X7_worthAt_51 hO hR a1 a2 (σ.1 112 (ix ((30 : Int32) + a1))) σ4) (lsub_c rfl (lsub_c rfl (lsub_c rfl (lsub_c rfl lsub_n))))
theorem c_X7_worthAt {l : Launch} {G : Gh}   (a1 : Int32) (a2 : Int32) (σ : Wd) : Con l G yX7_worthAt cX7_worthAt 5 (some .int) 1 22 [.ref (G.A 102), .int a1, .int a2] σ (f_X7_worthAt a1 a2 σ) := Con.of (plainFor_of_name (by decide)) rfl (Nat.le_of_ble_eq_true rfl) (fun K hl hG hO hR => by subst hl; subst hG; exact b_X7_worthAt hO hR  a1 a2 σ)
theorem cal_X7_worthAt : CalV yX7_worthAt cX7_worthAt 5 (some .int) 2 := ⟨a_696, a_697, a_698, a_464, by decide, by decide, by decide +kernel⟩
theorem k_X7_worthAt {K : Kt} {nL : Nat} {cs : Nat × Nat} {σ : Wd} {pc : Nat} {lv : List (Nat × Value)} {st : List Value} {cc : ByteArray} {own : String} {rm : Room} {index : Nat} {g : Int32 → Wd → Option (Int32 × Wd)} {a1 : Int32} {a2 : Int32} (hO : Ok K cc own nL rm)  (hl : Cond.methodLink own index yX7_worthAt ∈ gtb) (hcat : Nat.ble ((st.map fun v => v.category).sum) 8 = true) (hR : RoomOk rm cs 1 22 5) (d : decode cc pc = .ok (.invokevirtual index, 3)) (kk : ∀ (r : Int32) (σ : Wd), Cm K nL cs (g r σ) σ (pc + 3) lv (.int r :: st)) : Cm K nL cs (bd (f_X7_worthAt a1 a2 σ) g) σ pc lv (.int a2 :: .int a1 :: .ref (K.G.A 102) :: st) := r_cVi hO (c_X7_worthAt  a1 a2 σ) cal_X7_worthAt hl rfl (by decide) ent_X7 rfl rfl hcat hR d kk
/-! OrderSplitModel.unitsWorth -/
def f_X7_unitsWorth_62  (k4 : Int32 → Int32 → Int32 → Wd → Option (Int32 × Wd)) (k15 : Int32 → Int32 → Int32 → Int32 → Wd → Option (Int32 × Wd)) (x1 : Int32) (x3 : Int32) (x4 : Int32) (s0 : Int32) (s1 : Int32) (σ : Wd) : Option (Int32 × Wd) := (k15 x1 (s0 + s1) x3 (x4 + (1 : Int32)) σ)
def f_X7_unitsWorth_61  (k4 : Int32 → Int32 → Int32 → Wd → Option (Int32 × Wd)) (k15 : Int32 → Int32 → Int32 → Int32 → Wd → Option (Int32 × Wd)) (x1 : Int32) (x3 : Int32) (x4 : Int32) (s0 : Int32) (σ : Wd) : Option (Int32 × Wd) := (f_X7_unitsWorth_62 k4 k15 x1 x3 x4 s0 (0 : Int32) σ)
def f_X7_unitsWorth_15  (k4 : Int32 → Int32 → Int32 → Wd → Option (Int32 × Wd)) : Nat → Int32 → Int32 → Int32 → Int32 → Wd → Option (Int32 × Wd)
  | 0 => fun _ _ _ _ _ => none
  | n + 1 => fun x1 x2 x3 x4 σ => bd (f_X7_levels x3 σ) fun r1 σ2 => if r1 ≤ x4 then (k4 x1 x2 (x3 + (1 : Int32)) σ2) else (bd (f_X7_priceOf x3 x4 σ2) fun r3 σ4 => if (σ4.1 102 12) < r3 then (f_X7_unitsWorth_61 k4 (f_X7_unitsWorth_15 k4 n) x1 x3 x4 x2 σ4) else (bd (f_X7_worthAt x3 x4 σ4) fun r5 σ6 => if r5 = x1 then (bd (f_X7_sizeOf x3 x4 σ6) fun r7 σ8 => (f_X7_unitsWorth_62 k4 (f_X7_unitsWorth_15 k4 n) x1 x3 x4 x2 r7 σ8)) else (f_X7_unitsWorth_61 k4 (f_X7_unitsWorth_15 k4 n) x1 x3 x4 x2 σ6)))
def f_X7_unitsWorth_4   : Nat → Int32 → Int32 → Int32 → Wd → Option (Int32 × Wd)
  | 0 => fun _ _ _ _ => none
  | n + 1 => fun x1 x2 x3 σ => if (σ.1 102 14) ≤ x3 then (some (x2, σ)) else (f_X7_unitsWorth_15 (f_X7_unitsWorth_4 n) FU x1 x2 x3 (0 : Int32) σ)
def f_X7_unitsWorth (a1 : Int32) (σ : Wd) : Option (Int32 × Wd) := (f_X7_unitsWorth_4 FU a1 (0 : Int32) (0 : Int32) σ)
set_option maxRecDepth 20000 in
set_option maxHeartbeats 1000000 in
theorem b_X7_unitsWorth_62 {K : Kt}  {k4 : Int32 → Int32 → Int32 → Wd → Option (Int32 × Wd)} {k15 : Int32 → Int32 → Int32 → Int32 → Wd → Option (Int32 × Wd)} (hO : Ok K cX7_unitsWorth RX7 5 rm_X7_unitsWorth) (hR : Rt K (some .int))   (hk4 : ∀ (x1 : Int32) (x2 : Int32) (x3 : Int32) (σ : Wd), Cm K 5 (0, 0) (k4 x1 x2 x3 σ) σ 4 [(0, .ref (K.G.A 102)), (1, .int x1), (2, .int x2), (3, .int x3)] []) (hk15 : ∀ (x1 : Int32) (x2 : Int32) (x3 : Int32) (x4 : Int32) (σ : Wd), Cm K 5 (0, 0) (k15 x1 x2 x3 x4 σ) σ 15 [(0, .ref (K.G.A 102)), (1, .int x1), (2, .int x2), (3, .int x3), (4, .int x4)] []) (x1 : Int32) (x3 : Int32) (x4 : Int32) (s0 : Int32) (s1 : Int32) (σ : Wd)  : Cm K 5 (0, 0) (f_X7_unitsWorth_62 k4 k15 x1 x3 x4 s0 s1 σ) σ 62 [(0, .ref (K.G.A 102)), (1, .int x1), (3, .int x3), (4, .int x4)] [.int s1, .int s0] := by
  refine r_iadd hO dX7_unitsWorth_62 ?_
  refine r_istore_n (i := 2) hO rfl rfl rfl dX7_unitsWorth_63 ?_
  refine r_iinc hO rfl ci_1 rfl rfl dX7_unitsWorth_64 ?_
  refine r_goto (tgt := 15) hO dX7_unitsWorth_67 (by decide) ?_
  exact r_jmp (hk15 x1 (s0 + s1) x3 (x4 + (1 : Int32)) σ) (lsub_c rfl (lsub_c rfl (lsub_c rfl (lsub_c rfl (lsub_c rfl lsub_n)))))
set_option maxRecDepth 20000 in
set_option maxHeartbeats 1000000 in
theorem b_X7_unitsWorth_61 {K : Kt}  {k4 : Int32 → Int32 → Int32 → Wd → Option (Int32 × Wd)} {k15 : Int32 → Int32 → Int32 → Int32 → Wd → Option (Int32 × Wd)} (hO : Ok K cX7_unitsWorth RX7 5 rm_X7_unitsWorth) (hR : Rt K (some .int))   (hk4 : ∀ (x1 : Int32) (x2 : Int32) (x3 : Int32) (σ : Wd), Cm K 5 (0, 0) (k4 x1 x2 x3 σ) σ 4 [(0, .ref (K.G.A 102)), (1, .int x1), (2, .int x2), (3, .int x3)] []) (hk15 : ∀ (x1 : Int32) (x2 : Int32) (x3 : Int32) (x4 : Int32) (σ : Wd), Cm K 5 (0, 0) (k15 x1 x2 x3 x4 σ) σ 15 [(0, .ref (K.G.A 102)), (1, .int x1), (2, .int x2), (3, .int x3), (4, .int x4)] []) (x1 : Int32) (x3 : Int32) (x4 : Int32) (s0 : Int32) (σ : Wd)  : Cm K 5 (0, 0) (f_X7_unitsWorth_61 k4 k15 x1 x3 x4 s0 σ) σ 61 [(0, .ref (K.G.A 102)), (1, .int x1), (3, .int x3), (4, .int x4)] [.int s0] := by
  refine r_iconst hO ci_0 dX7_unitsWorth_61 ?_
  exact r_jmp (b_X7_unitsWorth_62 hO hR hk4 hk15 x1 x3 x4 s0 (0 : Int32) σ) (lsub_c rfl (lsub_c rfl (lsub_c rfl (lsub_c rfl lsub_n))))
set_option maxRecDepth 20000 in
set_option maxHeartbeats 1000000 in
theorem b_X7_unitsWorth_15 {K : Kt}  {k4 : Int32 → Int32 → Int32 → Wd → Option (Int32 × Wd)} (hO : Ok K cX7_unitsWorth RX7 5 rm_X7_unitsWorth) (hR : Rt K (some .int))   (hk4 : ∀ (x1 : Int32) (x2 : Int32) (x3 : Int32) (σ : Wd), Cm K 5 (0, 0) (k4 x1 x2 x3 σ) σ 4 [(0, .ref (K.G.A 102)), (1, .int x1), (2, .int x2), (3, .int x3)] []) : ∀ (n : Nat) (x1 : Int32) (x2 : Int32) (x3 : Int32) (x4 : Int32) (σ : Wd) , Cm K 5 (0, 0) (f_X7_unitsWorth_15 k4 n x1 x2 x3 x4 σ) σ 15 [(0, .ref (K.G.A 102)), (1, .int x1), (2, .int x2), (3, .int x3), (4, .int x4)] [] := by
  intro n
  induction n with
  | zero => intro x1 x2 x3 x4 σ ; exact r_none
  | succ n ih =>
    intro x1 x2 x3 x4 σ 
    refine r_iload hO (d := dX7_unitsWorth_15) rfl ?_
    refine r_aload_n (i := 0) hO rfl rfl dX7_unitsWorth_17 ?_
    refine r_iload_n (i := 3) hO rfl rfl dX7_unitsWorth_18 ?_
    refine k_X7_levels hO a_585 rfl ⟨rfl, rfl, Nat.le_refl _, Nat.le_refl _⟩ dX7_unitsWorth_19 ?_
    intro r1 σ2
    refine r_icmp_ge (tgt := 70) hO dX7_unitsWorth_22 (by decide) ?_ ?_
    · refine r_iinc hO rfl ci_1 rfl rfl dX7_unitsWorth_70 ?_
      refine r_goto (tgt := 4) hO dX7_unitsWorth_73 (by decide) ?_
      exact r_jmp (hk4 x1 x2 (x3 + (1 : Int32)) σ2) (lsub_c rfl (lsub_c rfl (lsub_c rfl (lsub_c rfl lsub_n))))
    · refine r_iload_n (i := 2) hO rfl rfl dX7_unitsWorth_25 ?_
      refine r_aload_n (i := 0) hO rfl rfl dX7_unitsWorth_26 ?_
      refine r_iload_n (i := 3) hO rfl rfl dX7_unitsWorth_27 ?_
      refine r_iload hO (d := dX7_unitsWorth_28) rfl ?_
      refine k_X7_priceOf hO a_617 rfl ⟨rfl, rfl, Nat.le_refl _, Nat.le_refl _⟩ dX7_unitsWorth_30 ?_
      intro r3 σ4
      refine r_aload_n (i := 0) hO rfl rfl dX7_unitsWorth_33 ?_
      refine gX7_248 hO dX7_unitsWorth_34 ?_
      refine r_icmp_gt (tgt := 61) hO dX7_unitsWorth_37 (by decide) ?_ ?_
      · exact r_jmp (b_X7_unitsWorth_61 hO hR hk4 ih x1 x3 x4 x2 σ4) (lsub_c rfl (lsub_c rfl (lsub_c rfl (lsub_c rfl lsub_n))))
      · refine r_aload_n (i := 0) hO rfl rfl dX7_unitsWorth_40 ?_
        refine r_iload_n (i := 3) hO rfl rfl dX7_unitsWorth_41 ?_
        refine r_iload hO (d := dX7_unitsWorth_42) rfl ?_
        refine k_X7_worthAt hO a_699 rfl ⟨rfl, rfl, Nat.le_refl _, Nat.le_refl _⟩ dX7_unitsWorth_44 ?_
        intro r5 σ6
        refine r_iload_n (i := 1) hO rfl rfl dX7_unitsWorth_47 ?_
        refine r_icmp_ne (tgt := 61) hO dX7_unitsWorth_48 (by decide) ?_ ?_
        · refine r_aload_n (i := 0) hO rfl rfl dX7_unitsWorth_51 ?_
          refine r_iload_n (i := 3) hO rfl rfl dX7_unitsWorth_52 ?_
          refine r_iload hO (d := dX7_unitsWorth_53) rfl ?_
          refine k_X7_sizeOf hO a_618 rfl ⟨rfl, rfl, Nat.le_refl _, Nat.le_refl _⟩ dX7_unitsWorth_55 ?_
          intro r7 σ8
          refine r_goto (tgt := 62) hO dX7_unitsWorth_58 (by decide) ?_
          exact r_jmp (b_X7_unitsWorth_62 hO hR hk4 ih x1 x3 x4 x2 r7 σ8) (lsub_c rfl (lsub_c rfl (lsub_c rfl (lsub_c rfl lsub_n))))
        · exact r_jmp (b_X7_unitsWorth_61 hO hR hk4 ih x1 x3 x4 x2 σ6) (lsub_c rfl (lsub_c rfl (lsub_c rfl (lsub_c rfl lsub_n))))
set_option maxRecDepth 20000 in
set_option maxHeartbeats 1000000 in
theorem b_X7_unitsWorth_4 {K : Kt}   (hO : Ok K cX7_unitsWorth RX7 5 rm_X7_unitsWorth) (hR : Rt K (some .int))   : ∀ (n : Nat) (x1 : Int32) (x2 : Int32) (x3 : Int32) (σ : Wd) , Cm K 5 (0, 0) (f_X7_unitsWorth_4  n x1 x2 x3 σ) σ 4 [(0, .ref (K.G.A 102)), (1, .int x1), (2, .int x2), (3, .int x3)] [] := by
  intro n
  induction n with
  | zero => intro x1 x2 x3 σ ; exact r_none
  | succ n ih =>
    intro x1 x2 x3 σ 
    refine r_iload_n (i := 3) hO rfl rfl dX7_unitsWorth_4 ?_
    refine r_aload_n (i := 0) hO rfl rfl dX7_unitsWorth_5 ?_
    refine gX7_235 hO dX7_unitsWorth_6 ?_
    refine r_icmp_ge (tgt := 76) hO dX7_unitsWorth_9 (by decide) ?_ ?_
    · refine r_iload_n (i := 2) hO rfl rfl dX7_unitsWorth_76 ?_
      exact r_iret hO hR dX7_unitsWorth_77
    · refine r_iconst hO ci_0 dX7_unitsWorth_12 ?_
      refine r_istore hO rfl rfl dX7_unitsWorth_13 ?_
      exact r_jmp (b_X7_unitsWorth_15 hO hR ih FU x1 x2 x3 (0 : Int32) σ) (lsub_c rfl (lsub_c rfl (lsub_c rfl (lsub_c rfl (lsub_c rfl lsub_n)))))
set_option maxRecDepth 20000 in
set_option maxHeartbeats 1000000 in
theorem b_X7_unitsWorth {K : Kt}  (hO : Ok K cX7_unitsWorth RX7 5 rm_X7_unitsWorth) (hR : Rt K (some .int))  (a1 : Int32) (σ : Wd) : Cm K 5 (0, 0) (f_X7_unitsWorth a1 σ) σ 0 [(0, .ref (K.G.A 102)), (1, .int a1)] [] := by
  refine r_iconst hO ci_0 dX7_unitsWorth_0 ?_
  refine r_istore_n (i := 2) hO rfl rfl rfl dX7_unitsWorth_1 ?_
  refine r_iconst hO ci_0 dX7_unitsWorth_2 ?_
  refine r_istore_n (i := 3) hO rfl rfl rfl dX7_unitsWorth_3 ?_
  exact r_jmp (b_X7_unitsWorth_4 hO hR FU a1 (0 : Int32) (0 : Int32) σ) (lsub_c rfl (lsub_c rfl (lsub_c rfl (lsub_c rfl lsub_n))))
theorem c_X7_unitsWorth {l : Launch} {G : Gh}   (a1 : Int32) (σ : Wd) : Con l G yX7_unitsWorth cX7_unitsWorth 5 (some .int) 2 46 [.ref (G.A 102), .int a1] σ (f_X7_unitsWorth a1 σ) := Con.of (plainFor_of_name (by decide)) rfl (Nat.le_of_ble_eq_true rfl) (fun K hl hG hO hR => by subst hl; subst hG; exact b_X7_unitsWorth hO hR  a1 σ)
theorem cal_X7_unitsWorth : CalV yX7_unitsWorth cX7_unitsWorth 5 (some .int) 1 := ⟨a_700, a_701, a_702, a_464, by decide, by decide, by decide +kernel⟩
theorem k_X7_unitsWorth {K : Kt} {nL : Nat} {cs : Nat × Nat} {σ : Wd} {pc : Nat} {lv : List (Nat × Value)} {st : List Value} {cc : ByteArray} {own : String} {rm : Room} {index : Nat} {g : Int32 → Wd → Option (Int32 × Wd)} {a1 : Int32} (hO : Ok K cc own nL rm)  (hl : Cond.methodLink own index yX7_unitsWorth ∈ gtb) (hcat : Nat.ble ((st.map fun v => v.category).sum) 8 = true) (hR : RoomOk rm cs 2 46 5) (d : decode cc pc = .ok (.invokevirtual index, 3)) (kk : ∀ (r : Int32) (σ : Wd), Cm K nL cs (g r σ) σ (pc + 3) lv (.int r :: st)) : Cm K nL cs (bd (f_X7_unitsWorth a1 σ) g) σ pc lv (.int a1 :: .ref (K.G.A 102) :: st) := r_cVi hO (c_X7_unitsWorth  a1 σ) cal_X7_unitsWorth hl rfl (by decide) ent_X7 rfl rfl hcat hR d kk
/-! OrderSplitModel.boundOf -/
def f_X7_boundOf_75  (k14 : Int32 → Int32 → Int32 → Wd → Option (Int32 × Wd)) (x2 : Int32) (x3 : Int32) (x4 : Int32) (σ : Wd) : Option (Int32 × Wd) := (k14 x2 x3 (x4 + (1 : Int32)) σ)
def f_X7_boundOf_60  (k14 : Int32 → Int32 → Int32 → Wd → Option (Int32 × Wd)) (x2 : Int32) (x3 : Int32) (x4 : Int32) (s0 : Int32) (σ : Wd) : Option (Int32 × Wd) := (f_X7_boundOf_75 k14 (x2 - s0) (x3 + (s0 * x4)) x4 σ)
def f_X7_boundOf_81   (x3 : Int32) (σ : Wd) : Option (Int32 × Wd) := some (x3, σ)
def f_X7_boundOf_14   : Nat → Int32 → Int32 → Int32 → Wd → Option (Int32 × Wd)
  | 0 => fun _ _ _ _ => none
  | n + 1 => fun x2 x3 x4 σ => if (1019 : Int32) < x4 then (f_X7_boundOf_81 x3 σ) else (if x2 ≤ 0 then (f_X7_boundOf_81 x3 σ) else (bd (f_X7_unitsWorth x4 σ) fun r1 σ2 => if r1 = 0 then (f_X7_boundOf_75 (f_X7_boundOf_14 n) x2 x3 x4 σ2) else (nmW (wi σ2 102 39 x4) fun σ3 => if x2 ≤ r1 then (f_X7_boundOf_60 (f_X7_boundOf_14 n) x2 x3 x4 x2 σ3) else (f_X7_boundOf_60 (f_X7_boundOf_14 n) x2 x3 x4 r1 σ3))))
def f_X7_boundOf (a1 : Int32) (σ : Wd) : Option (Int32 × Wd) := nmW (wi σ 102 39 (-2147483648 : Int32)) fun σ1 => (f_X7_boundOf_14 FU a1 (0 : Int32) (-20 : Int32) σ1)
set_option maxRecDepth 20000 in
set_option maxHeartbeats 1000000 in
theorem b_X7_boundOf_75 {K : Kt}  {k14 : Int32 → Int32 → Int32 → Wd → Option (Int32 × Wd)} (hO : Ok K cX7_boundOf RX7 7 rm_X7_boundOf) (hR : Rt K (some .int))   (hk14 : ∀ (x2 : Int32) (x3 : Int32) (x4 : Int32) (σ : Wd), Cm K 7 (0, 0) (k14 x2 x3 x4 σ) σ 14 [(0, .ref (K.G.A 102)), (2, .int x2), (3, .int x3), (4, .int x4)] []) (x2 : Int32) (x3 : Int32) (x4 : Int32) (σ : Wd)  : Cm K 7 (0, 0) (f_X7_boundOf_75 k14 x2 x3 x4 σ) σ 75 [(0, .ref (K.G.A 102)), (2, .int x2), (3, .int x3), (4, .int x4)] [] := by
  refine r_iinc hO rfl ci_1 rfl rfl dX7_boundOf_75 ?_
  refine r_goto (tgt := 14) hO dX7_boundOf_78 (by decide) ?_
  exact r_jmp (hk14 x2 x3 (x4 + (1 : Int32)) σ) (lsub_c rfl (lsub_c rfl (lsub_c rfl (lsub_c rfl lsub_n))))
set_option maxRecDepth 20000 in
set_option maxHeartbeats 1000000 in
theorem b_X7_boundOf_60 {K : Kt}  {k14 : Int32 → Int32 → Int32 → Wd → Option (Int32 × Wd)} (hO : Ok K cX7_boundOf RX7 7 rm_X7_boundOf) (hR : Rt K (some .int))   (hk14 : ∀ (x2 : Int32) (x3 : Int32) (x4 : Int32) (σ : Wd), Cm K 7 (0, 0) (k14 x2 x3 x4 σ) σ 14 [(0, .ref (K.G.A 102)), (2, .int x2), (3, .int x3), (4, .int x4)] []) (x2 : Int32) (x3 : Int32) (x4 : Int32) (s0 : Int32) (σ : Wd)  : Cm K 7 (0, 0) (f_X7_boundOf_60 k14 x2 x3 x4 s0 σ) σ 60 [(0, .ref (K.G.A 102)), (2, .int x2), (3, .int x3), (4, .int x4)] [.int s0] := by
  refine r_istore hO rfl rfl dX7_boundOf_60 ?_
  refine r_iload_n (i := 3) hO rfl rfl dX7_boundOf_62 ?_
  refine r_iload hO (d := dX7_boundOf_63) rfl ?_
  refine r_iload hO (d := dX7_boundOf_65) rfl ?_
  refine r_imul hO dX7_boundOf_67 ?_
  refine r_iadd hO dX7_boundOf_68 ?_
  refine r_istore_n (i := 3) hO rfl rfl rfl dX7_boundOf_69 ?_
  refine r_iload_n (i := 2) hO rfl rfl dX7_boundOf_70 ?_
  refine r_iload hO (d := dX7_boundOf_71) rfl ?_
  refine r_isub hO dX7_boundOf_73 ?_
  refine r_istore_n (i := 2) hO rfl rfl rfl dX7_boundOf_74 ?_
  exact r_jmp (b_X7_boundOf_75 hO hR hk14 (x2 - s0) (x3 + (s0 * x4)) x4 σ) (lsub_c rfl (lsub_c rfl (lsub_c rfl (lsub_c rfl lsub_n))))
set_option maxRecDepth 20000 in
set_option maxHeartbeats 1000000 in
theorem b_X7_boundOf_81 {K : Kt}   (hO : Ok K cX7_boundOf RX7 7 rm_X7_boundOf) (hR : Rt K (some .int))   (x3 : Int32) (σ : Wd)  : Cm K 7 (0, 0) (f_X7_boundOf_81  x3 σ) σ 81 [(3, .int x3)] [] := by
  refine r_iload_n (i := 3) hO rfl rfl dX7_boundOf_81 ?_
  exact r_iret hO hR dX7_boundOf_82
set_option maxRecDepth 20000 in
set_option maxHeartbeats 1000000 in
theorem b_X7_boundOf_14 {K : Kt}   (hO : Ok K cX7_boundOf RX7 7 rm_X7_boundOf) (hR : Rt K (some .int))   : ∀ (n : Nat) (x2 : Int32) (x3 : Int32) (x4 : Int32) (σ : Wd) , Cm K 7 (0, 0) (f_X7_boundOf_14  n x2 x3 x4 σ) σ 14 [(0, .ref (K.G.A 102)), (2, .int x2), (3, .int x3), (4, .int x4)] [] := by
  intro n
  induction n with
  | zero => intro x2 x3 x4 σ ; exact r_none
  | succ n ih =>
    intro x2 x3 x4 σ 
    refine r_iload hO (d := dX7_boundOf_14) rfl ?_
    refine r_sipush hO si_1019 dX7_boundOf_16 ?_
    refine r_icmp_gt (tgt := 81) hO dX7_boundOf_19 (by decide) ?_ ?_
    · exact r_jmp (b_X7_boundOf_81 hO hR x3 σ) (lsub_c rfl lsub_n)
    · refine r_iload_n (i := 2) hO rfl rfl dX7_boundOf_22 ?_
      refine r_if_le (tgt := 81) hO dX7_boundOf_23 (by decide) ?_ ?_
      · exact r_jmp (b_X7_boundOf_81 hO hR x3 σ) (lsub_c rfl lsub_n)
      · refine r_aload_n (i := 0) hO rfl rfl dX7_boundOf_26 ?_
        refine r_iload hO (d := dX7_boundOf_27) rfl ?_
        refine k_X7_unitsWorth hO a_703 rfl ⟨rfl, rfl, Nat.le_refl _, Nat.le_refl _⟩ dX7_boundOf_29 ?_
        intro r1 σ2
        refine r_istore hO rfl rfl dX7_boundOf_32 ?_
        refine r_iload hO (d := dX7_boundOf_34) rfl ?_
        refine r_if_ne (tgt := 42) hO dX7_boundOf_36 (by decide) ?_ ?_
        · refine r_goto (tgt := 75) hO dX7_boundOf_39 (by decide) ?_
          exact r_jmp (b_X7_boundOf_75 hO hR ih x2 x3 x4 σ2) (lsub_c rfl (lsub_c rfl (lsub_c rfl (lsub_c rfl lsub_n))))
        · refine r_aload_n (i := 0) hO rfl rfl dX7_boundOf_42 ?_
          refine r_iload hO (d := dX7_boundOf_43) rfl ?_
          refine pX7_329 hO dX7_boundOf_45 ?_
          refine r_nmW fun σ3 => ?_
          refine r_iload hO (d := dX7_boundOf_48) rfl ?_
          refine r_iload_n (i := 2) hO rfl rfl dX7_boundOf_50 ?_
          refine r_icmp_ge (tgt := 59) hO dX7_boundOf_51 (by decide) ?_ ?_
          · refine r_iload_n (i := 2) hO rfl rfl dX7_boundOf_59 ?_
            exact r_jmp (b_X7_boundOf_60 hO hR ih x2 x3 x4 x2 σ3) (lsub_c rfl (lsub_c rfl (lsub_c rfl (lsub_c rfl lsub_n))))
          · refine r_iload hO (d := dX7_boundOf_54) rfl ?_
            refine r_goto (tgt := 60) hO dX7_boundOf_56 (by decide) ?_
            exact r_jmp (b_X7_boundOf_60 hO hR ih x2 x3 x4 r1 σ3) (lsub_c rfl (lsub_c rfl (lsub_c rfl (lsub_c rfl lsub_n))))
set_option maxRecDepth 20000 in
set_option maxHeartbeats 1000000 in
theorem b_X7_boundOf {K : Kt}  (hO : Ok K cX7_boundOf RX7 7 rm_X7_boundOf) (hR : Rt K (some .int))  (a1 : Int32) (σ : Wd) : Cm K 7 (0, 0) (f_X7_boundOf a1 σ) σ 0 [(0, .ref (K.G.A 102)), (1, .int a1)] [] := by
  refine r_iload_n (i := 1) hO rfl rfl dX7_boundOf_0 ?_
  refine r_istore_n (i := 2) hO rfl rfl rfl dX7_boundOf_1 ?_
  refine r_iconst hO ci_0 dX7_boundOf_2 ?_
  refine r_istore_n (i := 3) hO rfl rfl rfl dX7_boundOf_3 ?_
  refine r_aload_n (i := 0) hO rfl rfl dX7_boundOf_4 ?_
  refine r_ldc hO a_466 dX7_boundOf_5 ?_
  refine pX7_329 hO dX7_boundOf_7 ?_
  refine r_nmW fun σ1 => ?_
  refine r_bipush hO bi_m20 dX7_boundOf_10 ?_
  refine r_istore hO rfl rfl dX7_boundOf_12 ?_
  exact r_jmp (b_X7_boundOf_14 hO hR FU a1 (0 : Int32) (-20 : Int32) σ1) (lsub_c rfl (lsub_c rfl (lsub_c rfl (lsub_c rfl lsub_n))))
theorem c_X7_boundOf {l : Launch} {G : Gh}   (a1 : Int32) (σ : Wd) : Con l G yX7_boundOf cX7_boundOf 7 (some .int) 3 70 [.ref (G.A 102), .int a1] σ (f_X7_boundOf a1 σ) := Con.of (plainFor_of_name (by decide)) rfl (Nat.le_of_ble_eq_true rfl) (fun K hl hG hO hR => by subst hl; subst hG; exact b_X7_boundOf hO hR  a1 σ)
theorem cal_X7_boundOf : CalV yX7_boundOf cX7_boundOf 7 (some .int) 1 := ⟨a_704, a_705, a_706, a_464, by decide, by decide, by decide +kernel⟩
theorem k_X7_boundOf {K : Kt} {nL : Nat} {cs : Nat × Nat} {σ : Wd} {pc : Nat} {lv : List (Nat × Value)} {st : List Value} {cc : ByteArray} {own : String} {rm : Room} {index : Nat} {g : Int32 → Wd → Option (Int32 × Wd)} {a1 : Int32} (hO : Ok K cc own nL rm)  (hl : Cond.methodLink own index yX7_boundOf ∈ gtb) (hcat : Nat.ble ((st.map fun v => v.category).sum) 8 = true) (hR : RoomOk rm cs 3 70 7) (d : decode cc pc = .ok (.invokevirtual index, 3)) (kk : ∀ (r : Int32) (σ : Wd), Cm K nL cs (g r σ) σ (pc + 3) lv (.int r :: st)) : Cm K nL cs (bd (f_X7_boundOf a1 σ) g) σ pc lv (.int a1 :: .ref (K.G.A 102) :: st) := r_cVi hO (c_X7_boundOf  a1 σ) cal_X7_boundOf hl rfl (by decide) ent_X7 rfl rfl hcat hR d kk
/-! OrderSplitModel.bound -/
def f_X7_bound_33   (s0 : Int32) (σ : Wd) : Option (Int32 × Wd) := some (s0, σ)
def f_X7_bound (a1 : Int32) (σ : Wd) : Option (Int32 × Wd) := nmW (wi σ 102 0 (0 : Int32)) fun σ1 => bd (f_X7_refusesQ (1 : Int32) a1 σ1) fun r2 σ3 => if r2 ≤ 0 then (bd (f_X7_boundOf a1 σ3) fun r4 σ5 => bd (f_X7_good r4 σ5) fun r6 σ7 => (f_X7_bound_33 r6 σ7)) else (bd (f_X7_refusedLow r2 σ3) fun r8 σ9 => (f_X7_bound_33 r8 σ9))
set_option maxRecDepth 20000 in
set_option maxHeartbeats 1000000 in
theorem b_X7_bound_33 {K : Kt}   (hO : Ok K cX7_bound RX7 3 rm_X7_bound) (hR : Rt K (some .int))   (s0 : Int32) (σ : Wd)  : Cm K 3 (0, 0) (f_X7_bound_33  s0 σ) σ 33 [] [.int s0] := by
  exact r_iret hO hR dX7_bound_33
set_option maxRecDepth 20000 in
set_option maxHeartbeats 1000000 in
theorem b_X7_bound {K : Kt}  (hO : Ok K cX7_bound RX7 3 rm_X7_bound) (hR : Rt K (some .int))  (a1 : Int32) (σ : Wd) : Cm K 3 (0, 0) (f_X7_bound a1 σ) σ 0 [(0, .ref (K.G.A 102)), (1, .int a1)] [] := by
  refine r_aload_n (i := 0) hO rfl rfl dX7_bound_0 ?_
  refine r_iconst hO ci_0 dX7_bound_1 ?_
  refine pX7_70 hO dX7_bound_2 ?_
  refine r_nmW fun σ1 => ?_
  refine r_aload_n (i := 0) hO rfl rfl dX7_bound_5 ?_
  refine r_iconst hO ci_1 dX7_bound_6 ?_
  refine r_iload_n (i := 1) hO rfl rfl dX7_bound_7 ?_
  refine k_X7_refusesQ hO a_685 rfl ⟨rfl, rfl, Nat.le_refl _, Nat.le_refl _⟩ dX7_bound_8 ?_
  intro r2 σ3
  refine r_istore_n (i := 2) hO rfl rfl rfl dX7_bound_11 ?_
  refine r_iload_n (i := 2) hO rfl rfl dX7_bound_12 ?_
  refine r_if_le (tgt := 24) hO dX7_bound_13 (by decide) ?_ ?_
  · refine r_aload_n (i := 0) hO rfl rfl dX7_bound_24 ?_
    refine r_aload_n (i := 0) hO rfl rfl dX7_bound_25 ?_
    refine r_iload_n (i := 1) hO rfl rfl dX7_bound_26 ?_
    refine k_X7_boundOf hO a_707 rfl ⟨rfl, rfl, Nat.le_refl _, Nat.le_refl _⟩ dX7_bound_27 ?_
    intro r4 σ5
    refine k_X7_good hO a_592 rfl ⟨rfl, rfl, Nat.le_refl _, Nat.le_refl _⟩ dX7_bound_30 ?_
    intro r6 σ7
    exact r_jmp (b_X7_bound_33 hO hR r6 σ7) lsub_n
  · refine r_aload_n (i := 0) hO rfl rfl dX7_bound_16 ?_
    refine r_iload_n (i := 2) hO rfl rfl dX7_bound_17 ?_
    refine k_X7_refusedLow hO a_642 rfl ⟨rfl, rfl, Nat.le_refl _, Nat.le_refl _⟩ dX7_bound_18 ?_
    intro r8 σ9
    refine r_goto (tgt := 33) hO dX7_bound_21 (by decide) ?_
    exact r_jmp (b_X7_bound_33 hO hR r8 σ9) lsub_n
theorem c_X7_bound {l : Launch} {G : Gh}   (a1 : Int32) (σ : Wd) : Con l G yX7_bound cX7_bound 3 (some .int) 4 96 [.ref (G.A 102), .int a1] σ (f_X7_bound a1 σ) := Con.of (plainFor_of_name (by decide)) rfl (Nat.le_of_ble_eq_true rfl) (fun K hl hG hO hR => by subst hl; subst hG; exact b_X7_bound hO hR  a1 σ)
theorem cal_X7_bound : CalV yX7_bound cX7_bound 3 (some .int) 1 := ⟨a_708, a_709, a_710, a_464, by decide, by decide, by decide +kernel⟩
theorem k_X7_bound {K : Kt} {nL : Nat} {cs : Nat × Nat} {σ : Wd} {pc : Nat} {lv : List (Nat × Value)} {st : List Value} {cc : ByteArray} {own : String} {rm : Room} {index : Nat} {g : Int32 → Wd → Option (Int32 × Wd)} {a1 : Int32} (hO : Ok K cc own nL rm)  (hl : Cond.methodLink own index yX7_bound ∈ gtb) (hcat : Nat.ble ((st.map fun v => v.category).sum) 8 = true) (hR : RoomOk rm cs 4 96 3) (d : decode cc pc = .ok (.invokevirtual index, 3)) (kk : ∀ (r : Int32) (σ : Wd), Cm K nL cs (g r σ) σ (pc + 3) lv (.int r :: st)) : Cm K nL cs (bd (f_X7_bound a1 σ) g) σ pc lv (.int a1 :: .ref (K.G.A 102) :: st) := r_cVi hO (c_X7_bound  a1 σ) cal_X7_bound hl rfl (by decide) ent_X7 rfl rfl hcat hR d kk
/-! OrderSplitModel.margin -/
def f_X7_margin (a1 : Int32) (σ : Wd) : Option (Int32 × Wd) := nmW (wi σ 102 0 (0 : Int32)) fun σ1 => bd (f_X7_refusesQ (1 : Int32) a1 σ1) fun r2 σ3 => if r2 ≤ 0 then (bd (f_X7_boundOf a1 σ3) fun r4 σ5 => bd (f_X7_good (σ5.1 102 39) σ5) fun r6 σ7 => some (r6, σ7)) else (bd (f_X7_refusedLow r2 σ3) fun r8 σ9 => some (r8, σ9))
set_option maxRecDepth 20000 in
set_option maxHeartbeats 1000000 in
theorem b_X7_margin {K : Kt}  (hO : Ok K cX7_margin RX7 3 rm_X7_margin) (hR : Rt K (some .int))  (a1 : Int32) (σ : Wd) : Cm K 3 (0, 0) (f_X7_margin a1 σ) σ 0 [(0, .ref (K.G.A 102)), (1, .int a1)] [] := by
  refine r_aload_n (i := 0) hO rfl rfl dX7_margin_0 ?_
  refine r_iconst hO ci_0 dX7_margin_1 ?_
  refine pX7_70 hO dX7_margin_2 ?_
  refine r_nmW fun σ1 => ?_
  refine r_aload_n (i := 0) hO rfl rfl dX7_margin_5 ?_
  refine r_iconst hO ci_1 dX7_margin_6 ?_
  refine r_iload_n (i := 1) hO rfl rfl dX7_margin_7 ?_
  refine k_X7_refusesQ hO a_685 rfl ⟨rfl, rfl, Nat.le_refl _, Nat.le_refl _⟩ dX7_margin_8 ?_
  intro r2 σ3
  refine r_istore_n (i := 2) hO rfl rfl rfl dX7_margin_11 ?_
  refine r_iload_n (i := 2) hO rfl rfl dX7_margin_12 ?_
  refine r_if_le (tgt := 22) hO dX7_margin_13 (by decide) ?_ ?_
  · refine r_aload_n (i := 0) hO rfl rfl dX7_margin_22 ?_
    refine r_iload_n (i := 1) hO rfl rfl dX7_margin_23 ?_
    refine k_X7_boundOf hO a_707 rfl ⟨rfl, rfl, Nat.le_refl _, Nat.le_refl _⟩ dX7_margin_24 ?_
    intro r4 σ5
    refine r_pop hO rfl dX7_margin_27 ?_
    refine r_aload_n (i := 0) hO rfl rfl dX7_margin_28 ?_
    refine r_aload_n (i := 0) hO rfl rfl dX7_margin_29 ?_
    refine gX7_329 hO dX7_margin_30 ?_
    refine k_X7_good hO a_592 rfl ⟨rfl, rfl, Nat.le_refl _, Nat.le_refl _⟩ dX7_margin_33 ?_
    intro r6 σ7
    exact r_iret hO hR dX7_margin_36
  · refine r_aload_n (i := 0) hO rfl rfl dX7_margin_16 ?_
    refine r_iload_n (i := 2) hO rfl rfl dX7_margin_17 ?_
    refine k_X7_refusedLow hO a_642 rfl ⟨rfl, rfl, Nat.le_refl _, Nat.le_refl _⟩ dX7_margin_18 ?_
    intro r8 σ9
    exact r_iret hO hR dX7_margin_21
theorem c_X7_margin {l : Launch} {G : Gh}   (a1 : Int32) (σ : Wd) : Con l G yX7_margin cX7_margin 3 (some .int) 4 96 [.ref (G.A 102), .int a1] σ (f_X7_margin a1 σ) := Con.of (plainFor_of_name (by decide)) rfl (Nat.le_of_ble_eq_true rfl) (fun K hl hG hO hR => by subst hl; subst hG; exact b_X7_margin hO hR  a1 σ)
theorem cal_X7_margin : CalV yX7_margin cX7_margin 3 (some .int) 1 := ⟨a_711, a_712, a_713, a_464, by decide, by decide, by decide +kernel⟩
theorem k_X7_margin {K : Kt} {nL : Nat} {cs : Nat × Nat} {σ : Wd} {pc : Nat} {lv : List (Nat × Value)} {st : List Value} {cc : ByteArray} {own : String} {rm : Room} {index : Nat} {g : Int32 → Wd → Option (Int32 × Wd)} {a1 : Int32} (hO : Ok K cc own nL rm)  (hl : Cond.methodLink own index yX7_margin ∈ gtb) (hcat : Nat.ble ((st.map fun v => v.category).sum) 8 = true) (hR : RoomOk rm cs 4 96 3) (d : decode cc pc = .ok (.invokevirtual index, 3)) (kk : ∀ (r : Int32) (σ : Wd), Cm K nL cs (g r σ) σ (pc + 3) lv (.int r :: st)) : Cm K nL cs (bd (f_X7_margin a1 σ) g) σ pc lv (.int a1 :: .ref (K.G.A 102) :: st) := r_cVi hO (c_X7_margin  a1 σ) cal_X7_margin hl rfl (by decide) ent_X7 rfl rfl hcat hR d kk
/-! OrderSplitModel.gap -/
def f_X7_gap (a1 : Int32) (σ : Wd) : Option (Int32 × Wd) := nmW (wi σ 102 0 (0 : Int32)) fun σ1 => bd (f_X7_refusesQ (1 : Int32) a1 σ1) fun r2 σ3 => if r2 ≤ 0 then (bd (f_X7_laysBest a1 (-1 : Int32) σ3) fun _ σ4 => bd (f_X7_boundOf (σ4.1 102 37) σ4) fun r5 σ6 => bd (f_X7_good ((σ4.1 102 38) - r5) σ6) fun r7 σ8 => some (r7, σ8)) else (bd (f_X7_refused r2 σ3) fun r9 σ10 => some (r9, σ10))
set_option maxRecDepth 20000 in
set_option maxHeartbeats 1000000 in
theorem b_X7_gap {K : Kt}  (hO : Ok K cX7_gap RX7 3 rm_X7_gap) (hR : Rt K (some .int))  (a1 : Int32) (σ : Wd) : Cm K 3 (0, 0) (f_X7_gap a1 σ) σ 0 [(0, .ref (K.G.A 102)), (1, .int a1)] [] := by
  refine r_aload_n (i := 0) hO rfl rfl dX7_gap_0 ?_
  refine r_iconst hO ci_0 dX7_gap_1 ?_
  refine pX7_70 hO dX7_gap_2 ?_
  refine r_nmW fun σ1 => ?_
  refine r_aload_n (i := 0) hO rfl rfl dX7_gap_5 ?_
  refine r_iconst hO ci_1 dX7_gap_6 ?_
  refine r_iload_n (i := 1) hO rfl rfl dX7_gap_7 ?_
  refine k_X7_refusesQ hO a_685 rfl ⟨rfl, rfl, Nat.le_refl _, Nat.le_refl _⟩ dX7_gap_8 ?_
  intro r2 σ3
  refine r_istore_n (i := 2) hO rfl rfl rfl dX7_gap_11 ?_
  refine r_iload_n (i := 2) hO rfl rfl dX7_gap_12 ?_
  refine r_if_le (tgt := 22) hO dX7_gap_13 (by decide) ?_ ?_
  · refine r_aload_n (i := 0) hO rfl rfl dX7_gap_22 ?_
    refine r_iload_n (i := 1) hO rfl rfl dX7_gap_23 ?_
    refine r_iconst hO ci_m1 dX7_gap_24 ?_
    refine k_X7_laysBest hO a_686 rfl ⟨rfl, rfl, Nat.le_refl _, Nat.le_refl _⟩ dX7_gap_25 ?_
    intro _ σ4
    refine r_aload_n (i := 0) hO rfl rfl dX7_gap_28 ?_
    refine r_aload_n (i := 0) hO rfl rfl dX7_gap_29 ?_
    refine gX7_309 hO dX7_gap_30 ?_
    refine r_aload_n (i := 0) hO rfl rfl dX7_gap_33 ?_
    refine r_aload_n (i := 0) hO rfl rfl dX7_gap_34 ?_
    refine gX7_305 hO dX7_gap_35 ?_
    refine k_X7_boundOf hO a_707 rfl ⟨rfl, rfl, Nat.le_refl _, Nat.le_refl _⟩ dX7_gap_38 ?_
    intro r5 σ6
    refine r_isub hO dX7_gap_41 ?_
    refine k_X7_good hO a_592 rfl ⟨rfl, rfl, Nat.le_refl _, Nat.le_refl _⟩ dX7_gap_42 ?_
    intro r7 σ8
    exact r_iret hO hR dX7_gap_45
  · refine r_aload_n (i := 0) hO rfl rfl dX7_gap_16 ?_
    refine r_iload_n (i := 2) hO rfl rfl dX7_gap_17 ?_
    refine k_X7_refused hO a_465 rfl ⟨rfl, rfl, Nat.le_refl _, Nat.le_refl _⟩ dX7_gap_18 ?_
    intro r9 σ10
    exact r_iret hO hR dX7_gap_21
theorem c_X7_gap {l : Launch} {G : Gh}   (a1 : Int32) (σ : Wd) : Con l G yX7_gap cX7_gap 3 (some .int) 7 163 [.ref (G.A 102), .int a1] σ (f_X7_gap a1 σ) := Con.of (plainFor_of_name (by decide)) rfl (Nat.le_of_ble_eq_true rfl) (fun K hl hG hO hR => by subst hl; subst hG; exact b_X7_gap hO hR  a1 σ)
theorem cal_X7_gap : CalV yX7_gap cX7_gap 3 (some .int) 1 := ⟨a_714, a_715, a_716, a_464, by decide, by decide, by decide +kernel⟩
theorem k_X7_gap {K : Kt} {nL : Nat} {cs : Nat × Nat} {σ : Wd} {pc : Nat} {lv : List (Nat × Value)} {st : List Value} {cc : ByteArray} {own : String} {rm : Room} {index : Nat} {g : Int32 → Wd → Option (Int32 × Wd)} {a1 : Int32} (hO : Ok K cc own nL rm)  (hl : Cond.methodLink own index yX7_gap ∈ gtb) (hcat : Nat.ble ((st.map fun v => v.category).sum) 8 = true) (hR : RoomOk rm cs 7 163 3) (d : decode cc pc = .ok (.invokevirtual index, 3)) (kk : ∀ (r : Int32) (σ : Wd), Cm K nL cs (g r σ) σ (pc + 3) lv (.int r :: st)) : Cm K nL cs (bd (f_X7_gap a1 σ) g) σ pc lv (.int a1 :: .ref (K.G.A 102) :: st) := r_cVi hO (c_X7_gap  a1 σ) cal_X7_gap hl rfl (by decide) ent_X7 rfl rfl hcat hR d kk
/-! OrderSplitModel.nextCost -/
def f_X7_nextCost (a1 : Int32) (σ : Wd) : Option (Int32 × Wd) := gd (inb a1 5) (bd (f_X7_lot a1 σ) fun r1 σ2 => bd (f_X7_costOf a1 ((σ.1 118 (ix a1)) + r1) σ2) fun r3 σ4 => gd (inb a1 5) (bd (f_X7_costOf a1 (σ4.1 118 (ix a1)) σ4) fun r5 σ6 => some (r3 - r5, σ6)))
set_option maxRecDepth 20000 in
set_option maxHeartbeats 1000000 in
theorem b_X7_nextCost {K : Kt}  (hO : Ok K cX7_nextCost RX7 2 rm_X7_nextCost) (hR : Rt K (some .int))  (a1 : Int32) (σ : Wd) : Cm K 2 (0, 0) (f_X7_nextCost a1 σ) σ 0 [(0, .ref (K.G.A 102)), (1, .int a1)] [] := by
  refine r_aload_n (i := 0) hO rfl rfl dX7_nextCost_0 ?_
  refine r_iload_n (i := 1) hO rfl rfl dX7_nextCost_1 ?_
  refine r_aload_n (i := 0) hO rfl rfl dX7_nextCost_2 ?_
  refine gX7_63 hO dX7_nextCost_3 ?_
  refine r_iload_n (i := 1) hO rfl rfl dX7_nextCost_6 ?_
  refine r_iald hO s_118 dX7_nextCost_7 ?_
  refine r_aload_n (i := 0) hO rfl rfl dX7_nextCost_8 ?_
  refine r_iload_n (i := 1) hO rfl rfl dX7_nextCost_9 ?_
  refine k_X7_lot hO a_643 rfl ⟨rfl, rfl, Nat.le_refl _, Nat.le_refl _⟩ dX7_nextCost_10 ?_
  intro r1 σ2
  refine r_iadd hO dX7_nextCost_13 ?_
  refine k_X7_costOf hO a_658 rfl ⟨rfl, rfl, Nat.le_refl _, Nat.le_refl _⟩ dX7_nextCost_14 ?_
  intro r3 σ4
  refine r_aload_n (i := 0) hO rfl rfl dX7_nextCost_17 ?_
  refine r_iload_n (i := 1) hO rfl rfl dX7_nextCost_18 ?_
  refine r_aload_n (i := 0) hO rfl rfl dX7_nextCost_19 ?_
  refine gX7_63 hO dX7_nextCost_20 ?_
  refine r_iload_n (i := 1) hO rfl rfl dX7_nextCost_23 ?_
  refine r_iald hO s_118 dX7_nextCost_24 ?_
  refine k_X7_costOf hO a_658 rfl ⟨rfl, rfl, Nat.le_refl _, Nat.le_refl _⟩ dX7_nextCost_25 ?_
  intro r5 σ6
  refine r_isub hO dX7_nextCost_28 ?_
  exact r_iret hO hR dX7_nextCost_29
theorem c_X7_nextCost {l : Launch} {G : Gh}   (a1 : Int32) (σ : Wd) : Con l G yX7_nextCost cX7_nextCost 2 (some .int) 4 91 [.ref (G.A 102), .int a1] σ (f_X7_nextCost a1 σ) := Con.of (plainFor_of_name (by decide)) rfl (Nat.le_of_ble_eq_true rfl) (fun K hl hG hO hR => by subst hl; subst hG; exact b_X7_nextCost hO hR  a1 σ)
theorem cal_X7_nextCost : CalV yX7_nextCost cX7_nextCost 2 (some .int) 1 := ⟨a_717, a_718, a_719, a_464, by decide, by decide, by decide +kernel⟩
theorem k_X7_nextCost {K : Kt} {nL : Nat} {cs : Nat × Nat} {σ : Wd} {pc : Nat} {lv : List (Nat × Value)} {st : List Value} {cc : ByteArray} {own : String} {rm : Room} {index : Nat} {g : Int32 → Wd → Option (Int32 × Wd)} {a1 : Int32} (hO : Ok K cc own nL rm)  (hl : Cond.methodLink own index yX7_nextCost ∈ gtb) (hcat : Nat.ble ((st.map fun v => v.category).sum) 8 = true) (hR : RoomOk rm cs 4 91 2) (d : decode cc pc = .ok (.invokevirtual index, 3)) (kk : ∀ (r : Int32) (σ : Wd), Cm K nL cs (g r σ) σ (pc + 3) lv (.int r :: st)) : Cm K nL cs (bd (f_X7_nextCost a1 σ) g) σ pc lv (.int a1 :: .ref (K.G.A 102) :: st) := r_cVi hO (c_X7_nextCost  a1 σ) cal_X7_nextCost hl rfl (by decide) ent_X7 rfl rfl hcat hR d kk
/-! OrderSplitModel.nextGreedy -/
def f_X7_nextGreedy_76  (k4 : Int32 → Int32 → Int32 → Wd → Option (Int32 × Wd)) (x1 : Int32) (x2 : Int32) (x3 : Int32) (σ : Wd) : Option (Int32 × Wd) := (k4 x1 x2 (x3 + (1 : Int32)) σ)
def f_X7_nextGreedy_74  (k4 : Int32 → Int32 → Int32 → Wd → Option (Int32 × Wd)) (x1 : Int32) (x3 : Int32) (σ : Wd) : Option (Int32 × Wd) := (f_X7_nextGreedy_76 k4 x1 x3 x3 σ)
def f_X7_nextGreedy_4   : Nat → Int32 → Int32 → Int32 → Wd → Option (Int32 × Wd)
  | 0 => fun _ _ _ _ => none
  | n + 1 => fun x1 x2 x3 σ => if (σ.1 102 14) ≤ x3 then (some (x2, σ)) else (bd (f_X7_lot x3 σ) fun r1 σ2 => if x1 < r1 then (f_X7_nextGreedy_76 (f_X7_nextGreedy_4 n) x1 x2 x3 σ2) else (gd (inb x3 5) (bd (f_X7_lot x3 σ2) fun r3 σ4 => bd (f_X7_depth x3 σ4) fun r5 σ6 => if ((σ2.1 118 (ix x3)) + r3) ≤ r5 then (if x2 = (-1 : Int32) then (f_X7_nextGreedy_74 (f_X7_nextGreedy_4 n) x1 x3 σ6) else (bd (f_X7_nextCost x3 σ6) fun r7 σ8 => bd (f_X7_lot x2 σ8) fun r9 σ10 => bd (f_X7_nextCost x2 σ10) fun r11 σ12 => bd (f_X7_lot x3 σ12) fun r13 σ14 => if (r11 * r13) ≤ (r7 * r9) then (f_X7_nextGreedy_76 (f_X7_nextGreedy_4 n) x1 x2 x3 σ14) else (f_X7_nextGreedy_74 (f_X7_nextGreedy_4 n) x1 x3 σ14))) else (f_X7_nextGreedy_76 (f_X7_nextGreedy_4 n) x1 x2 x3 σ6))))
def f_X7_nextGreedy (a1 : Int32) (σ : Wd) : Option (Int32 × Wd) := (f_X7_nextGreedy_4 FU a1 (-1 : Int32) (0 : Int32) σ)
set_option maxRecDepth 20000 in
set_option maxHeartbeats 1000000 in
theorem b_X7_nextGreedy_76 {K : Kt}  {k4 : Int32 → Int32 → Int32 → Wd → Option (Int32 × Wd)} (hO : Ok K cX7_nextGreedy RX7 4 rm_X7_nextGreedy) (hR : Rt K (some .int))   (hk4 : ∀ (x1 : Int32) (x2 : Int32) (x3 : Int32) (σ : Wd), Cm K 4 (0, 0) (k4 x1 x2 x3 σ) σ 4 [(0, .ref (K.G.A 102)), (1, .int x1), (2, .int x2), (3, .int x3)] []) (x1 : Int32) (x2 : Int32) (x3 : Int32) (σ : Wd)  : Cm K 4 (0, 0) (f_X7_nextGreedy_76 k4 x1 x2 x3 σ) σ 76 [(0, .ref (K.G.A 102)), (1, .int x1), (2, .int x2), (3, .int x3)] [] := by
  refine r_iinc hO rfl ci_1 rfl rfl dX7_nextGreedy_76 ?_
  refine r_goto (tgt := 4) hO dX7_nextGreedy_79 (by decide) ?_
  exact r_jmp (hk4 x1 x2 (x3 + (1 : Int32)) σ) (lsub_c rfl (lsub_c rfl (lsub_c rfl (lsub_c rfl lsub_n))))
set_option maxRecDepth 20000 in
set_option maxHeartbeats 1000000 in
theorem b_X7_nextGreedy_74 {K : Kt}  {k4 : Int32 → Int32 → Int32 → Wd → Option (Int32 × Wd)} (hO : Ok K cX7_nextGreedy RX7 4 rm_X7_nextGreedy) (hR : Rt K (some .int))   (hk4 : ∀ (x1 : Int32) (x2 : Int32) (x3 : Int32) (σ : Wd), Cm K 4 (0, 0) (k4 x1 x2 x3 σ) σ 4 [(0, .ref (K.G.A 102)), (1, .int x1), (2, .int x2), (3, .int x3)] []) (x1 : Int32) (x3 : Int32) (σ : Wd)  : Cm K 4 (0, 0) (f_X7_nextGreedy_74 k4 x1 x3 σ) σ 74 [(0, .ref (K.G.A 102)), (1, .int x1), (3, .int x3)] [] := by
  refine r_iload_n (i := 3) hO rfl rfl dX7_nextGreedy_74 ?_
  refine r_istore_n (i := 2) hO rfl rfl rfl dX7_nextGreedy_75 ?_
  exact r_jmp (b_X7_nextGreedy_76 hO hR hk4 x1 x3 x3 σ) (lsub_c rfl (lsub_c rfl (lsub_c rfl (lsub_c rfl lsub_n))))
set_option maxRecDepth 20000 in
set_option maxHeartbeats 1000000 in
theorem b_X7_nextGreedy_4 {K : Kt}   (hO : Ok K cX7_nextGreedy RX7 4 rm_X7_nextGreedy) (hR : Rt K (some .int))   : ∀ (n : Nat) (x1 : Int32) (x2 : Int32) (x3 : Int32) (σ : Wd) , Cm K 4 (0, 0) (f_X7_nextGreedy_4  n x1 x2 x3 σ) σ 4 [(0, .ref (K.G.A 102)), (1, .int x1), (2, .int x2), (3, .int x3)] [] := by
  intro n
  induction n with
  | zero => intro x1 x2 x3 σ ; exact r_none
  | succ n ih =>
    intro x1 x2 x3 σ 
    refine r_iload_n (i := 3) hO rfl rfl dX7_nextGreedy_4 ?_
    refine r_aload_n (i := 0) hO rfl rfl dX7_nextGreedy_5 ?_
    refine gX7_235 hO dX7_nextGreedy_6 ?_
    refine r_icmp_ge (tgt := 82) hO dX7_nextGreedy_9 (by decide) ?_ ?_
    · refine r_iload_n (i := 2) hO rfl rfl dX7_nextGreedy_82 ?_
      exact r_iret hO hR dX7_nextGreedy_83
    · refine r_aload_n (i := 0) hO rfl rfl dX7_nextGreedy_12 ?_
      refine r_iload_n (i := 3) hO rfl rfl dX7_nextGreedy_13 ?_
      refine k_X7_lot hO a_643 rfl ⟨rfl, rfl, Nat.le_refl _, Nat.le_refl _⟩ dX7_nextGreedy_14 ?_
      intro r1 σ2
      refine r_iload_n (i := 1) hO rfl rfl dX7_nextGreedy_17 ?_
      refine r_icmp_gt (tgt := 76) hO dX7_nextGreedy_18 (by decide) ?_ ?_
      · exact r_jmp (b_X7_nextGreedy_76 hO hR ih x1 x2 x3 σ2) (lsub_c rfl (lsub_c rfl (lsub_c rfl (lsub_c rfl lsub_n))))
      · refine r_aload_n (i := 0) hO rfl rfl dX7_nextGreedy_21 ?_
        refine gX7_63 hO dX7_nextGreedy_22 ?_
        refine r_iload_n (i := 3) hO rfl rfl dX7_nextGreedy_25 ?_
        refine r_iald hO s_118 dX7_nextGreedy_26 ?_
        refine r_aload_n (i := 0) hO rfl rfl dX7_nextGreedy_27 ?_
        refine r_iload_n (i := 3) hO rfl rfl dX7_nextGreedy_28 ?_
        refine k_X7_lot hO a_643 rfl ⟨rfl, rfl, Nat.le_refl _, Nat.le_refl _⟩ dX7_nextGreedy_29 ?_
        intro r3 σ4
        refine r_iadd hO dX7_nextGreedy_32 ?_
        refine r_aload_n (i := 0) hO rfl rfl dX7_nextGreedy_33 ?_
        refine r_iload_n (i := 3) hO rfl rfl dX7_nextGreedy_34 ?_
        refine k_X7_depth hO a_644 rfl ⟨rfl, rfl, Nat.le_refl _, Nat.le_refl _⟩ dX7_nextGreedy_35 ?_
        intro r5 σ6
        refine r_icmp_le (tgt := 44) hO dX7_nextGreedy_38 (by decide) ?_ ?_
        · refine r_iload_n (i := 2) hO rfl rfl dX7_nextGreedy_44 ?_
          refine r_iconst hO ci_m1 dX7_nextGreedy_45 ?_
          refine r_icmp_eq (tgt := 74) hO dX7_nextGreedy_46 (by decide) ?_ ?_
          · exact r_jmp (b_X7_nextGreedy_74 hO hR ih x1 x3 σ6) (lsub_c rfl (lsub_c rfl (lsub_c rfl lsub_n)))
          · refine r_aload_n (i := 0) hO rfl rfl dX7_nextGreedy_49 ?_
            refine r_iload_n (i := 3) hO rfl rfl dX7_nextGreedy_50 ?_
            refine k_X7_nextCost hO a_720 rfl ⟨rfl, rfl, Nat.le_refl _, Nat.le_refl _⟩ dX7_nextGreedy_51 ?_
            intro r7 σ8
            refine r_aload_n (i := 0) hO rfl rfl dX7_nextGreedy_54 ?_
            refine r_iload_n (i := 2) hO rfl rfl dX7_nextGreedy_55 ?_
            refine k_X7_lot hO a_643 rfl ⟨rfl, rfl, Nat.le_refl _, Nat.le_refl _⟩ dX7_nextGreedy_56 ?_
            intro r9 σ10
            refine r_imul hO dX7_nextGreedy_59 ?_
            refine r_aload_n (i := 0) hO rfl rfl dX7_nextGreedy_60 ?_
            refine r_iload_n (i := 2) hO rfl rfl dX7_nextGreedy_61 ?_
            refine k_X7_nextCost hO a_720 rfl ⟨rfl, rfl, Nat.le_refl _, Nat.le_refl _⟩ dX7_nextGreedy_62 ?_
            intro r11 σ12
            refine r_aload_n (i := 0) hO rfl rfl dX7_nextGreedy_65 ?_
            refine r_iload_n (i := 3) hO rfl rfl dX7_nextGreedy_66 ?_
            refine k_X7_lot hO a_643 rfl ⟨rfl, rfl, Nat.le_refl _, Nat.le_refl _⟩ dX7_nextGreedy_67 ?_
            intro r13 σ14
            refine r_imul hO dX7_nextGreedy_70 ?_
            refine r_icmp_ge (tgt := 76) hO dX7_nextGreedy_71 (by decide) ?_ ?_
            · exact r_jmp (b_X7_nextGreedy_76 hO hR ih x1 x2 x3 σ14) (lsub_c rfl (lsub_c rfl (lsub_c rfl (lsub_c rfl lsub_n))))
            · exact r_jmp (b_X7_nextGreedy_74 hO hR ih x1 x3 σ14) (lsub_c rfl (lsub_c rfl (lsub_c rfl lsub_n)))
        · refine r_goto (tgt := 76) hO dX7_nextGreedy_41 (by decide) ?_
          exact r_jmp (b_X7_nextGreedy_76 hO hR ih x1 x2 x3 σ6) (lsub_c rfl (lsub_c rfl (lsub_c rfl (lsub_c rfl lsub_n))))
set_option maxRecDepth 20000 in
set_option maxHeartbeats 1000000 in
theorem b_X7_nextGreedy {K : Kt}  (hO : Ok K cX7_nextGreedy RX7 4 rm_X7_nextGreedy) (hR : Rt K (some .int))  (a1 : Int32) (σ : Wd) : Cm K 4 (0, 0) (f_X7_nextGreedy a1 σ) σ 0 [(0, .ref (K.G.A 102)), (1, .int a1)] [] := by
  refine r_iconst hO ci_m1 dX7_nextGreedy_0 ?_
  refine r_istore_n (i := 2) hO rfl rfl rfl dX7_nextGreedy_1 ?_
  refine r_iconst hO ci_0 dX7_nextGreedy_2 ?_
  refine r_istore_n (i := 3) hO rfl rfl rfl dX7_nextGreedy_3 ?_
  exact r_jmp (b_X7_nextGreedy_4 hO hR FU a1 (-1 : Int32) (0 : Int32) σ) (lsub_c rfl (lsub_c rfl (lsub_c rfl (lsub_c rfl lsub_n))))
theorem c_X7_nextGreedy {l : Launch} {G : Gh}   (a1 : Int32) (σ : Wd) : Con l G yX7_nextGreedy cX7_nextGreedy 4 (some .int) 5 112 [.ref (G.A 102), .int a1] σ (f_X7_nextGreedy a1 σ) := Con.of (plainFor_of_name (by decide)) rfl (Nat.le_of_ble_eq_true rfl) (fun K hl hG hO hR => by subst hl; subst hG; exact b_X7_nextGreedy hO hR  a1 σ)
theorem cal_X7_nextGreedy : CalV yX7_nextGreedy cX7_nextGreedy 4 (some .int) 1 := ⟨a_721, a_722, a_723, a_464, by decide, by decide, by decide +kernel⟩
theorem k_X7_nextGreedy {K : Kt} {nL : Nat} {cs : Nat × Nat} {σ : Wd} {pc : Nat} {lv : List (Nat × Value)} {st : List Value} {cc : ByteArray} {own : String} {rm : Room} {index : Nat} {g : Int32 → Wd → Option (Int32 × Wd)} {a1 : Int32} (hO : Ok K cc own nL rm)  (hl : Cond.methodLink own index yX7_nextGreedy ∈ gtb) (hcat : Nat.ble ((st.map fun v => v.category).sum) 8 = true) (hR : RoomOk rm cs 5 112 4) (d : decode cc pc = .ok (.invokevirtual index, 3)) (kk : ∀ (r : Int32) (σ : Wd), Cm K nL cs (g r σ) σ (pc + 3) lv (.int r :: st)) : Cm K nL cs (bd (f_X7_nextGreedy a1 σ) g) σ pc lv (.int a1 :: .ref (K.G.A 102) :: st) := r_cVi hO (c_X7_nextGreedy  a1 σ) cal_X7_nextGreedy hl rfl (by decide) ent_X7 rfl rfl hcat hR d kk
/-! OrderSplitModel.greedy -/
def f_X7_greedy_160  (k114 : Int32 → Int32 → Int32 → Int32 → Int32 → Int32 → Wd → Option (Int32 × Wd)) (x1 : Int32) (x2 : Int32) (x4 : Int32) (x5 : Int32) (x6 : Int32) (x7 : Int32) (σ : Wd) : Option (Int32 × Wd) := (k114 x1 x2 x4 x5 x6 (x7 + (1 : Int32)) σ)
def f_X7_greedy_190   (s1 : Int32) (σ : Wd) : Option (Int32 × Wd) := bd (f_X7_good s1 σ) fun r1 σ2 => some (r1, σ2)
def f_X7_greedy_114   : Nat → Int32 → Int32 → Int32 → Int32 → Int32 → Int32 → Wd → Option (Int32 × Wd)
  | 0 => fun _ _ _ _ _ _ _ => none
  | n + 1 => fun x1 x2 x4 x5 x6 x7 σ => if (σ.1 102 14) ≤ x7 then (if x2 = 0 then (f_X7_greedy_190 x5 σ) else (if x2 = (1 : Int32) then (f_X7_greedy_190 (x1 - x4) σ) else (f_X7_greedy_190 x6 σ))) else (gd (inb x7 5) (bd (f_X7_costOf x7 (σ.1 118 (ix x7)) σ) fun r1 σ2 => gd (inb x7 5) (if (σ2.1 118 (ix x7)) ≤ 0 then (f_X7_greedy_160 (f_X7_greedy_114 n) x1 x2 x4 (x5 + r1) x6 x7 σ2) else (f_X7_greedy_160 (f_X7_greedy_114 n) x1 x2 x4 (x5 + r1) (x6 ||| ((1 : Int32) <<< (x7 &&& 31))) x7 σ2))))
def f_X7_greedy_61   : Nat → Int32 → Int32 → Int32 → Int32 → Wd → Option (Int32 × Wd)
  | 0 => fun _ _ _ _ _ => none
  | n + 1 => fun x1 x2 x4 x5 σ => if x5 = (-1 : Int32) then (f_X7_greedy_114 FU x1 x2 x4 (0 : Int32) (0 : Int32) (0 : Int32) σ) else (gd (inb x5 5) (bd (f_X7_lot x5 σ) fun r1 σ2 => gd (inb x5 5) (nmW (wi σ2 118 (ix x5) ((σ.1 118 (ix x5)) + r1)) fun σ3 => bd (f_X7_lot x5 σ3) fun r4 σ5 => bd (f_X7_nextGreedy (x4 - r4) σ5) fun r6 σ7 => (f_X7_greedy_61 n x1 x2 (x4 - r4) r6 σ7))))
def f_X7_greedy_30   : Nat → Int32 → Int32 → Int32 → Wd → Option (Int32 × Wd)
  | 0 => fun _ _ _ _ => none
  | n + 1 => fun x1 x2 x4 σ => if (5 : Int32) ≤ x4 then (bd (f_X7_nextGreedy x1 σ) fun r1 σ2 => (f_X7_greedy_61 FU x1 x2 x1 r1 σ2)) else (gd (inb x4 5) (nmW (wi σ 118 (ix x4) (0 : Int32)) fun σ3 => (f_X7_greedy_30 n x1 x2 (x4 + (1 : Int32)) σ3)))
def f_X7_greedy (a1 : Int32) (a2 : Int32) (σ : Wd) : Option (Int32 × Wd) := nmW (wi σ 102 0 (0 : Int32)) fun σ1 => bd (f_X7_in a2 (0 : Int32) (2 : Int32) σ1) fun r2 σ3 => bd (f_X7_refusesQ r2 a1 σ3) fun r4 σ5 => if r4 ≤ 0 then (f_X7_greedy_30 FU a1 a2 (0 : Int32) σ5) else (bd (f_X7_refusedLow r4 σ5) fun r6 σ7 => some (r6, σ7))
set_option maxRecDepth 20000 in
set_option maxHeartbeats 1000000 in
theorem b_X7_greedy_160 {K : Kt}  {k114 : Int32 → Int32 → Int32 → Int32 → Int32 → Int32 → Wd → Option (Int32 × Wd)} (hO : Ok K cX7_greedy RX7 8 rm_X7_greedy) (hR : Rt K (some .int))   (hk114 : ∀ (x1 : Int32) (x2 : Int32) (x4 : Int32) (x5 : Int32) (x6 : Int32) (x7 : Int32) (σ : Wd), Cm K 8 (0, 0) (k114 x1 x2 x4 x5 x6 x7 σ) σ 114 [(0, .ref (K.G.A 102)), (1, .int x1), (2, .int x2), (4, .int x4), (5, .int x5), (6, .int x6), (7, .int x7)] []) (x1 : Int32) (x2 : Int32) (x4 : Int32) (x5 : Int32) (x6 : Int32) (x7 : Int32) (σ : Wd)  : Cm K 8 (0, 0) (f_X7_greedy_160 k114 x1 x2 x4 x5 x6 x7 σ) σ 160 [(0, .ref (K.G.A 102)), (1, .int x1), (2, .int x2), (4, .int x4), (5, .int x5), (6, .int x6), (7, .int x7)] [] := by
  refine r_iinc hO rfl ci_1 rfl rfl dX7_greedy_160 ?_
  refine r_goto (tgt := 114) hO dX7_greedy_163 (by decide) ?_
  exact r_jmp (hk114 x1 x2 x4 x5 x6 (x7 + (1 : Int32)) σ) (lsub_c rfl (lsub_c rfl (lsub_c rfl (lsub_c rfl (lsub_c rfl (lsub_c rfl (lsub_c rfl lsub_n)))))))
set_option maxRecDepth 20000 in
set_option maxHeartbeats 1000000 in
theorem b_X7_greedy_190 {K : Kt}   (hO : Ok K cX7_greedy RX7 8 rm_X7_greedy) (hR : Rt K (some .int))   (s1 : Int32) (σ : Wd)  : Cm K 8 (0, 0) (f_X7_greedy_190  s1 σ) σ 190 [] [.int s1, .ref (K.G.A 102)] := by
  refine k_X7_good hO a_592 rfl ⟨rfl, rfl, Nat.le_refl _, Nat.le_refl _⟩ dX7_greedy_190 ?_
  intro r1 σ2
  exact r_iret hO hR dX7_greedy_193
set_option maxRecDepth 20000 in
set_option maxHeartbeats 1000000 in
theorem b_X7_greedy_114 {K : Kt}   (hO : Ok K cX7_greedy RX7 8 rm_X7_greedy) (hR : Rt K (some .int))   : ∀ (n : Nat) (x1 : Int32) (x2 : Int32) (x4 : Int32) (x5 : Int32) (x6 : Int32) (x7 : Int32) (σ : Wd) , Cm K 8 (0, 0) (f_X7_greedy_114  n x1 x2 x4 x5 x6 x7 σ) σ 114 [(0, .ref (K.G.A 102)), (1, .int x1), (2, .int x2), (4, .int x4), (5, .int x5), (6, .int x6), (7, .int x7)] [] := by
  intro n
  induction n with
  | zero => intro x1 x2 x4 x5 x6 x7 σ ; exact r_none
  | succ n ih =>
    intro x1 x2 x4 x5 x6 x7 σ 
    refine r_iload hO (d := dX7_greedy_114) rfl ?_
    refine r_aload_n (i := 0) hO rfl rfl dX7_greedy_116 ?_
    refine gX7_235 hO dX7_greedy_117 ?_
    refine r_icmp_ge (tgt := 166) hO dX7_greedy_120 (by decide) ?_ ?_
    · refine r_aload_n (i := 0) hO rfl rfl dX7_greedy_166 ?_
      refine r_iload_n (i := 2) hO rfl rfl dX7_greedy_167 ?_
      refine r_if_ne (tgt := 176) hO dX7_greedy_168 (by decide) ?_ ?_
      · refine r_iload hO (d := dX7_greedy_171) rfl ?_
        refine r_goto (tgt := 190) hO dX7_greedy_173 (by decide) ?_
        exact r_jmp (b_X7_greedy_190 hO hR x5 σ) lsub_n
      · refine r_iload_n (i := 2) hO rfl rfl dX7_greedy_176 ?_
        refine r_iconst hO ci_1 dX7_greedy_177 ?_
        refine r_icmp_ne (tgt := 188) hO dX7_greedy_178 (by decide) ?_ ?_
        · refine r_iload_n (i := 1) hO rfl rfl dX7_greedy_181 ?_
          refine r_iload hO (d := dX7_greedy_182) rfl ?_
          refine r_isub hO dX7_greedy_184 ?_
          refine r_goto (tgt := 190) hO dX7_greedy_185 (by decide) ?_
          exact r_jmp (b_X7_greedy_190 hO hR (x1 - x4) σ) lsub_n
        · refine r_iload hO (d := dX7_greedy_188) rfl ?_
          exact r_jmp (b_X7_greedy_190 hO hR x6 σ) lsub_n
    · refine r_iload hO (d := dX7_greedy_123) rfl ?_
      refine r_aload_n (i := 0) hO rfl rfl dX7_greedy_125 ?_
      refine r_iload hO (d := dX7_greedy_126) rfl ?_
      refine r_aload_n (i := 0) hO rfl rfl dX7_greedy_128 ?_
      refine gX7_63 hO dX7_greedy_129 ?_
      refine r_iload hO (d := dX7_greedy_132) rfl ?_
      refine r_iald hO s_118 dX7_greedy_134 ?_
      refine k_X7_costOf hO a_658 rfl ⟨rfl, rfl, Nat.le_refl _, Nat.le_refl _⟩ dX7_greedy_135 ?_
      intro r1 σ2
      refine r_iadd hO dX7_greedy_138 ?_
      refine r_istore hO rfl rfl dX7_greedy_139 ?_
      refine r_aload_n (i := 0) hO rfl rfl dX7_greedy_141 ?_
      refine gX7_63 hO dX7_greedy_142 ?_
      refine r_iload hO (d := dX7_greedy_145) rfl ?_
      refine r_iald hO s_118 dX7_greedy_147 ?_
      refine r_if_le (tgt := 160) hO dX7_greedy_148 (by decide) ?_ ?_
      · exact r_jmp (b_X7_greedy_160 hO hR ih x1 x2 x4 (x5 + r1) x6 x7 σ2) (lsub_c rfl (lsub_c rfl (lsub_c rfl (lsub_c rfl (lsub_c rfl (lsub_c rfl (lsub_c rfl lsub_n)))))))
      · refine r_iload hO (d := dX7_greedy_151) rfl ?_
        refine r_iconst hO ci_1 dX7_greedy_153 ?_
        refine r_iload hO (d := dX7_greedy_154) rfl ?_
        refine r_ishl hO dX7_greedy_156 ?_
        refine r_ior hO dX7_greedy_157 ?_
        refine r_istore hO rfl rfl dX7_greedy_158 ?_
        exact r_jmp (b_X7_greedy_160 hO hR ih x1 x2 x4 (x5 + r1) (x6 ||| ((1 : Int32) <<< (x7 &&& 31))) x7 σ2) (lsub_c rfl (lsub_c rfl (lsub_c rfl (lsub_c rfl (lsub_c rfl (lsub_c rfl (lsub_c rfl lsub_n)))))))
set_option maxRecDepth 20000 in
set_option maxHeartbeats 1000000 in
theorem b_X7_greedy_61 {K : Kt}   (hO : Ok K cX7_greedy RX7 8 rm_X7_greedy) (hR : Rt K (some .int))   : ∀ (n : Nat) (x1 : Int32) (x2 : Int32) (x4 : Int32) (x5 : Int32) (σ : Wd) , Cm K 8 (0, 0) (f_X7_greedy_61  n x1 x2 x4 x5 σ) σ 61 [(0, .ref (K.G.A 102)), (1, .int x1), (2, .int x2), (4, .int x4), (5, .int x5)] [] := by
  intro n
  induction n with
  | zero => intro x1 x2 x4 x5 σ ; exact r_none
  | succ n ih =>
    intro x1 x2 x4 x5 σ 
    refine r_iload hO (d := dX7_greedy_61) rfl ?_
    refine r_iconst hO ci_m1 dX7_greedy_63 ?_
    refine r_icmp_eq (tgt := 105) hO dX7_greedy_64 (by decide) ?_ ?_
    · refine r_iconst hO ci_0 dX7_greedy_105 ?_
      refine r_istore hO rfl rfl dX7_greedy_106 ?_
      refine r_iconst hO ci_0 dX7_greedy_108 ?_
      refine r_istore hO rfl rfl dX7_greedy_109 ?_
      refine r_iconst hO ci_0 dX7_greedy_111 ?_
      refine r_istore hO rfl rfl dX7_greedy_112 ?_
      exact r_jmp (b_X7_greedy_114 hO hR FU x1 x2 x4 (0 : Int32) (0 : Int32) (0 : Int32) σ) (lsub_c rfl (lsub_c rfl (lsub_c rfl (lsub_c rfl (lsub_c rfl (lsub_c rfl (lsub_c rfl lsub_n)))))))
    · refine r_aload_n (i := 0) hO rfl rfl dX7_greedy_67 ?_
      refine gX7_63 hO dX7_greedy_68 ?_
      refine r_iload hO (d := dX7_greedy_71) rfl ?_
      refine r_dup2 hO rfl rfl dX7_greedy_73 ?_
      refine r_iald hO s_118 dX7_greedy_74 ?_
      refine r_aload_n (i := 0) hO rfl rfl dX7_greedy_75 ?_
      refine r_iload hO (d := dX7_greedy_76) rfl ?_
      refine k_X7_lot hO a_643 rfl ⟨rfl, rfl, Nat.le_refl _, Nat.le_refl _⟩ dX7_greedy_78 ?_
      intro r1 σ2
      refine r_iadd hO dX7_greedy_81 ?_
      refine r_iast hO s_118 dX7_greedy_82 ?_
      refine r_nmW fun σ3 => ?_
      refine r_iload hO (d := dX7_greedy_83) rfl ?_
      refine r_aload_n (i := 0) hO rfl rfl dX7_greedy_85 ?_
      refine r_iload hO (d := dX7_greedy_86) rfl ?_
      refine k_X7_lot hO a_643 rfl ⟨rfl, rfl, Nat.le_refl _, Nat.le_refl _⟩ dX7_greedy_88 ?_
      intro r4 σ5
      refine r_isub hO dX7_greedy_91 ?_
      refine r_istore hO rfl rfl dX7_greedy_92 ?_
      refine r_aload_n (i := 0) hO rfl rfl dX7_greedy_94 ?_
      refine r_iload hO (d := dX7_greedy_95) rfl ?_
      refine k_X7_nextGreedy hO a_724 rfl ⟨rfl, rfl, Nat.le_refl _, Nat.le_refl _⟩ dX7_greedy_97 ?_
      intro r6 σ7
      refine r_istore hO rfl rfl dX7_greedy_100 ?_
      refine r_goto (tgt := 61) hO dX7_greedy_102 (by decide) ?_
      exact r_jmp (ih x1 x2 (x4 - r4) r6 σ7) (lsub_c rfl (lsub_c rfl (lsub_c rfl (lsub_c rfl (lsub_c rfl lsub_n)))))
set_option maxRecDepth 20000 in
set_option maxHeartbeats 1000000 in
theorem b_X7_greedy_30 {K : Kt}   (hO : Ok K cX7_greedy RX7 8 rm_X7_greedy) (hR : Rt K (some .int))   : ∀ (n : Nat) (x1 : Int32) (x2 : Int32) (x4 : Int32) (σ : Wd) , Cm K 8 (0, 0) (f_X7_greedy_30  n x1 x2 x4 σ) σ 30 [(0, .ref (K.G.A 102)), (1, .int x1), (2, .int x2), (4, .int x4)] [] := by
  intro n
  induction n with
  | zero => intro x1 x2 x4 σ ; exact r_none
  | succ n ih =>
    intro x1 x2 x4 σ 
    refine r_iload hO (d := dX7_greedy_30) rfl ?_
    refine r_iconst hO ci_5 dX7_greedy_32 ?_
    refine r_icmp_ge (tgt := 50) hO dX7_greedy_33 (by decide) ?_ ?_
    · refine r_iload_n (i := 1) hO rfl rfl dX7_greedy_50 ?_
      refine r_istore hO rfl rfl dX7_greedy_51 ?_
      refine r_aload_n (i := 0) hO rfl rfl dX7_greedy_53 ?_
      refine r_iload hO (d := dX7_greedy_54) rfl ?_
      refine k_X7_nextGreedy hO a_724 rfl ⟨rfl, rfl, Nat.le_refl _, Nat.le_refl _⟩ dX7_greedy_56 ?_
      intro r1 σ2
      refine r_istore hO rfl rfl dX7_greedy_59 ?_
      exact r_jmp (b_X7_greedy_61 hO hR FU x1 x2 x1 r1 σ2) (lsub_c rfl (lsub_c rfl (lsub_c rfl (lsub_c rfl (lsub_c rfl lsub_n)))))
    · refine r_aload_n (i := 0) hO rfl rfl dX7_greedy_36 ?_
      refine gX7_63 hO dX7_greedy_37 ?_
      refine r_iload hO (d := dX7_greedy_40) rfl ?_
      refine r_iconst hO ci_0 dX7_greedy_42 ?_
      refine r_iast hO s_118 dX7_greedy_43 ?_
      refine r_nmW fun σ3 => ?_
      refine r_iinc hO rfl ci_1 rfl rfl dX7_greedy_44 ?_
      refine r_goto (tgt := 30) hO dX7_greedy_47 (by decide) ?_
      exact r_jmp (ih x1 x2 (x4 + (1 : Int32)) σ3) (lsub_c rfl (lsub_c rfl (lsub_c rfl (lsub_c rfl lsub_n))))
set_option maxRecDepth 20000 in
set_option maxHeartbeats 1000000 in
theorem b_X7_greedy {K : Kt}  (hO : Ok K cX7_greedy RX7 8 rm_X7_greedy) (hR : Rt K (some .int))  (a1 : Int32) (a2 : Int32) (σ : Wd) : Cm K 8 (0, 0) (f_X7_greedy a1 a2 σ) σ 0 [(0, .ref (K.G.A 102)), (1, .int a1), (2, .int a2)] [] := by
  refine r_aload_n (i := 0) hO rfl rfl dX7_greedy_0 ?_
  refine r_iconst hO ci_0 dX7_greedy_1 ?_
  refine pX7_70 hO dX7_greedy_2 ?_
  refine r_nmW fun σ1 => ?_
  refine r_aload_n (i := 0) hO rfl rfl dX7_greedy_5 ?_
  refine r_iload_n (i := 2) hO rfl rfl dX7_greedy_6 ?_
  refine r_iconst hO ci_0 dX7_greedy_7 ?_
  refine r_iconst hO ci_2 dX7_greedy_8 ?_
  refine k_X7_in hO a_483 rfl ⟨rfl, rfl, Nat.le_refl _, Nat.le_refl _⟩ dX7_greedy_9 ?_
  intro r2 σ3
  refine r_iload_n (i := 1) hO rfl rfl dX7_greedy_12 ?_
  refine k_X7_refusesQ hO a_685 rfl ⟨rfl, rfl, Nat.le_refl _, Nat.le_refl _⟩ dX7_greedy_13 ?_
  intro r4 σ5
  refine r_istore_n (i := 3) hO rfl rfl rfl dX7_greedy_16 ?_
  refine r_iload_n (i := 3) hO rfl rfl dX7_greedy_17 ?_
  refine r_if_le (tgt := 27) hO dX7_greedy_18 (by decide) ?_ ?_
  · refine r_iconst hO ci_0 dX7_greedy_27 ?_
    refine r_istore hO rfl rfl dX7_greedy_28 ?_
    exact r_jmp (b_X7_greedy_30 hO hR FU a1 a2 (0 : Int32) σ5) (lsub_c rfl (lsub_c rfl (lsub_c rfl (lsub_c rfl lsub_n))))
  · refine r_aload_n (i := 0) hO rfl rfl dX7_greedy_21 ?_
    refine r_iload_n (i := 3) hO rfl rfl dX7_greedy_22 ?_
    refine k_X7_refusedLow hO a_642 rfl ⟨rfl, rfl, Nat.le_refl _, Nat.le_refl _⟩ dX7_greedy_23 ?_
    intro r6 σ7
    exact r_iret hO hR dX7_greedy_26
theorem c_X7_greedy {l : Launch} {G : Gh}   (a1 : Int32) (a2 : Int32) (σ : Wd) : Con l G yX7_greedy cX7_greedy 8 (some .int) 6 135 [.ref (G.A 102), .int a1, .int a2] σ (f_X7_greedy a1 a2 σ) := Con.of (plainFor_of_name (by decide)) rfl (Nat.le_of_ble_eq_true rfl) (fun K hl hG hO hR => by subst hl; subst hG; exact b_X7_greedy hO hR  a1 a2 σ)
theorem cal_X7_greedy : CalV yX7_greedy cX7_greedy 8 (some .int) 2 := ⟨a_725, a_726, a_727, a_464, by decide, by decide, by decide +kernel⟩
theorem k_X7_greedy {K : Kt} {nL : Nat} {cs : Nat × Nat} {σ : Wd} {pc : Nat} {lv : List (Nat × Value)} {st : List Value} {cc : ByteArray} {own : String} {rm : Room} {index : Nat} {g : Int32 → Wd → Option (Int32 × Wd)} {a1 : Int32} {a2 : Int32} (hO : Ok K cc own nL rm)  (hl : Cond.methodLink own index yX7_greedy ∈ gtb) (hcat : Nat.ble ((st.map fun v => v.category).sum) 8 = true) (hR : RoomOk rm cs 6 135 8) (d : decode cc pc = .ok (.invokevirtual index, 3)) (kk : ∀ (r : Int32) (σ : Wd), Cm K nL cs (g r σ) σ (pc + 3) lv (.int r :: st)) : Cm K nL cs (bd (f_X7_greedy a1 a2 σ) g) σ pc lv (.int a2 :: .int a1 :: .ref (K.G.A 102) :: st) := r_cVi hO (c_X7_greedy  a1 a2 σ) cal_X7_greedy hl rfl (by decide) ent_X7 rfl rfl hcat hR d kk
/-! OrderSplitModel.worth -/
def f_X7_worth_72   (s1 : Int32) (σ : Wd) : Option (Int32 × Wd) := bd (f_X7_good s1 σ) fun r1 σ2 => some (r1, σ2)
def f_X7_worth (a1 : Int32) (a2 : Int32) (σ : Wd) : Option (Int32 × Wd) := nmW (wi σ 102 0 (0 : Int32)) fun σ1 => bd (f_X7_isVenue a2 σ1) fun r2 σ3 => bd (f_X7_refusesQ r2 a1 σ3) fun r4 σ5 => if r4 ≤ 0 then (bd (f_X7_laysBest a1 (-1 : Int32) σ5) fun _ σ6 => bd (f_X7_laysBest a1 a2 σ6) fun _ σ7 => if (σ6.1 102 37) ≤ (σ7.1 102 37) then (f_X7_worth_72 ((σ7.1 102 38) - (σ6.1 102 38)) σ7) else (f_X7_worth_72 (-2 : Int32) σ7)) else (bd (f_X7_refused r4 σ5) fun r8 σ9 => some (r8, σ9))
set_option maxRecDepth 20000 in
set_option maxHeartbeats 1000000 in
theorem b_X7_worth_72 {K : Kt}   (hO : Ok K cX7_worth RX7 6 rm_X7_worth) (hR : Rt K (some .int))   (s1 : Int32) (σ : Wd)  : Cm K 6 (0, 0) (f_X7_worth_72  s1 σ) σ 72 [] [.int s1, .ref (K.G.A 102)] := by
  refine k_X7_good hO a_592 rfl ⟨rfl, rfl, Nat.le_refl _, Nat.le_refl _⟩ dX7_worth_72 ?_
  intro r1 σ2
  exact r_iret hO hR dX7_worth_75
set_option maxRecDepth 20000 in
set_option maxHeartbeats 1000000 in
theorem b_X7_worth {K : Kt}  (hO : Ok K cX7_worth RX7 6 rm_X7_worth) (hR : Rt K (some .int))  (a1 : Int32) (a2 : Int32) (σ : Wd) : Cm K 6 (0, 0) (f_X7_worth a1 a2 σ) σ 0 [(0, .ref (K.G.A 102)), (1, .int a1), (2, .int a2)] [] := by
  refine r_aload_n (i := 0) hO rfl rfl dX7_worth_0 ?_
  refine r_iconst hO ci_0 dX7_worth_1 ?_
  refine pX7_70 hO dX7_worth_2 ?_
  refine r_nmW fun σ1 => ?_
  refine r_aload_n (i := 0) hO rfl rfl dX7_worth_5 ?_
  refine r_aload_n (i := 0) hO rfl rfl dX7_worth_6 ?_
  refine r_iload_n (i := 2) hO rfl rfl dX7_worth_7 ?_
  refine k_X7_isVenue hO a_641 rfl ⟨rfl, rfl, Nat.le_refl _, Nat.le_refl _⟩ dX7_worth_8 ?_
  intro r2 σ3
  refine r_iload_n (i := 1) hO rfl rfl dX7_worth_11 ?_
  refine k_X7_refusesQ hO a_685 rfl ⟨rfl, rfl, Nat.le_refl _, Nat.le_refl _⟩ dX7_worth_12 ?_
  intro r4 σ5
  refine r_istore_n (i := 3) hO rfl rfl rfl dX7_worth_15 ?_
  refine r_iload_n (i := 3) hO rfl rfl dX7_worth_16 ?_
  refine r_if_le (tgt := 26) hO dX7_worth_17 (by decide) ?_ ?_
  · refine r_aload_n (i := 0) hO rfl rfl dX7_worth_26 ?_
    refine r_iload_n (i := 1) hO rfl rfl dX7_worth_27 ?_
    refine r_iconst hO ci_m1 dX7_worth_28 ?_
    refine k_X7_laysBest hO a_686 rfl ⟨rfl, rfl, Nat.le_refl _, Nat.le_refl _⟩ dX7_worth_29 ?_
    intro _ σ6
    refine r_aload_n (i := 0) hO rfl rfl dX7_worth_32 ?_
    refine gX7_305 hO dX7_worth_33 ?_
    refine r_istore hO rfl rfl dX7_worth_36 ?_
    refine r_aload_n (i := 0) hO rfl rfl dX7_worth_38 ?_
    refine gX7_309 hO dX7_worth_39 ?_
    refine r_istore hO rfl rfl dX7_worth_42 ?_
    refine r_aload_n (i := 0) hO rfl rfl dX7_worth_44 ?_
    refine r_iload_n (i := 1) hO rfl rfl dX7_worth_45 ?_
    refine r_iload_n (i := 2) hO rfl rfl dX7_worth_46 ?_
    refine k_X7_laysBest hO a_686 rfl ⟨rfl, rfl, Nat.le_refl _, Nat.le_refl _⟩ dX7_worth_47 ?_
    intro _ σ7
    refine r_aload_n (i := 0) hO rfl rfl dX7_worth_50 ?_
    refine r_aload_n (i := 0) hO rfl rfl dX7_worth_51 ?_
    refine gX7_305 hO dX7_worth_52 ?_
    refine r_iload hO (d := dX7_worth_55) rfl ?_
    refine r_icmp_ge (tgt := 65) hO dX7_worth_57 (by decide) ?_ ?_
    · refine r_aload_n (i := 0) hO rfl rfl dX7_worth_65 ?_
      refine gX7_309 hO dX7_worth_66 ?_
      refine r_iload hO (d := dX7_worth_69) rfl ?_
      refine r_isub hO dX7_worth_71 ?_
      exact r_jmp (b_X7_worth_72 hO hR ((σ7.1 102 38) - (σ6.1 102 38)) σ7) lsub_n
    · refine r_bipush hO bi_m2 dX7_worth_60 ?_
      refine r_goto (tgt := 72) hO dX7_worth_62 (by decide) ?_
      exact r_jmp (b_X7_worth_72 hO hR (-2 : Int32) σ7) lsub_n
  · refine r_aload_n (i := 0) hO rfl rfl dX7_worth_20 ?_
    refine r_iload_n (i := 3) hO rfl rfl dX7_worth_21 ?_
    refine k_X7_refused hO a_465 rfl ⟨rfl, rfl, Nat.le_refl _, Nat.le_refl _⟩ dX7_worth_22 ?_
    intro r8 σ9
    exact r_iret hO hR dX7_worth_25
theorem c_X7_worth {l : Launch} {G : Gh}   (a1 : Int32) (a2 : Int32) (σ : Wd) : Con l G yX7_worth cX7_worth 6 (some .int) 7 163 [.ref (G.A 102), .int a1, .int a2] σ (f_X7_worth a1 a2 σ) := Con.of (plainFor_of_name (by decide)) rfl (Nat.le_of_ble_eq_true rfl) (fun K hl hG hO hR => by subst hl; subst hG; exact b_X7_worth hO hR  a1 a2 σ)
theorem cal_X7_worth : CalV yX7_worth cX7_worth 6 (some .int) 2 := ⟨a_728, a_729, a_730, a_464, by decide, by decide, by decide +kernel⟩
theorem k_X7_worth {K : Kt} {nL : Nat} {cs : Nat × Nat} {σ : Wd} {pc : Nat} {lv : List (Nat × Value)} {st : List Value} {cc : ByteArray} {own : String} {rm : Room} {index : Nat} {g : Int32 → Wd → Option (Int32 × Wd)} {a1 : Int32} {a2 : Int32} (hO : Ok K cc own nL rm)  (hl : Cond.methodLink own index yX7_worth ∈ gtb) (hcat : Nat.ble ((st.map fun v => v.category).sum) 8 = true) (hR : RoomOk rm cs 7 163 6) (d : decode cc pc = .ok (.invokevirtual index, 3)) (kk : ∀ (r : Int32) (σ : Wd), Cm K nL cs (g r σ) σ (pc + 3) lv (.int r :: st)) : Cm K nL cs (bd (f_X7_worth a1 a2 σ) g) σ pc lv (.int a2 :: .int a1 :: .ref (K.G.A 102) :: st) := r_cVi hO (c_X7_worth  a1 a2 σ) cal_X7_worth hl rfl (by decide) ent_X7 rfl rfl hcat hR d kk

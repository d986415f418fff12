/-! OrderSplitModel.toCome -/
def f_X7_toCome_36  (k4 : Int32 → Int32 → Wd → Option (Int32 × Wd)) (x2 : Int32) (s0 : Int32) (s1 : Int32) (σ : Wd) : Option (Int32 × Wd) := (k4 (s0 + s1) (x2 + (1 : Int32)) σ)
def f_X7_toCome_4   : Nat → Int32 → Int32 → Wd → Option (Int32 × Wd)
  | 0 => fun _ _ _ => none
  | n + 1 => fun x1 x2 σ => if (σ.1 102 15) ≤ x2 then (some (x1, σ)) else (gd (inb ((4 : Int32) * x2) 40) (gd (inb (37 : Int32) 179) (if (σ.1 105 (ix ((4 : Int32) * x2))) ≤ (σ.1 112 (ix (37 : Int32))) then (f_X7_toCome_36 (f_X7_toCome_4 n) x2 x1 (0 : Int32) σ) else (f_X7_toCome_36 (f_X7_toCome_4 n) x2 x1 (1 : Int32) σ))))
def f_X7_toCome  (σ : Wd) : Option (Int32 × Wd) := (f_X7_toCome_4 FU (0 : Int32) (0 : Int32) σ)
set_option maxRecDepth 20000 in
set_option maxHeartbeats 1000000 in
theorem b_X7_toCome_36 {K : Kt}  {k4 : Int32 → Int32 → Wd → Option (Int32 × Wd)} (hO : Ok K cX7_toCome RX7 3 rm_X7_toCome) (hR : Rt K (some .int))   (hk4 : ∀ (x1 : Int32) (x2 : Int32) (σ : Wd), Cm K 3 (0, 0) (k4 x1 x2 σ) σ 4 [(0, .ref (K.G.A 102)), (1, .int x1), (2, .int x2)] []) (x2 : Int32) (s0 : Int32) (s1 : Int32) (σ : Wd)  : Cm K 3 (0, 0) (f_X7_toCome_36 k4 x2 s0 s1 σ) σ 36 [(0, .ref (K.G.A 102)), (2, .int x2)] [.int s1, .int s0] := by
  refine r_iadd hO dX7_toCome_36 ?_
  refine r_istore_n (i := 1) hO rfl rfl rfl dX7_toCome_37 ?_
  refine r_iinc hO rfl ci_1 rfl rfl dX7_toCome_38 ?_
  refine r_goto (tgt := 4) hO dX7_toCome_41 (by decide) ?_
  exact r_jmp (hk4 (s0 + s1) (x2 + (1 : Int32)) σ) (lsub_c rfl (lsub_c rfl (lsub_c rfl lsub_n)))
set_option maxRecDepth 20000 in
set_option maxHeartbeats 1000000 in
theorem b_X7_toCome_4 {K : Kt}   (hO : Ok K cX7_toCome RX7 3 rm_X7_toCome) (hR : Rt K (some .int))   : ∀ (n : Nat) (x1 : Int32) (x2 : Int32) (σ : Wd) , Cm K 3 (0, 0) (f_X7_toCome_4  n x1 x2 σ) σ 4 [(0, .ref (K.G.A 102)), (1, .int x1), (2, .int x2)] [] := by
  intro n
  induction n with
  | zero => intro x1 x2 σ ; exact r_none
  | succ n ih =>
    intro x1 x2 σ 
    refine r_iload_n (i := 2) hO rfl rfl dX7_toCome_4 ?_
    refine r_aload_n (i := 0) hO rfl rfl dX7_toCome_5 ?_
    refine gX7_252 hO dX7_toCome_6 ?_
    refine r_icmp_ge (tgt := 44) hO dX7_toCome_9 (by decide) ?_ ?_
    · refine r_iload_n (i := 1) hO rfl rfl dX7_toCome_44 ?_
      exact r_iret hO hR dX7_toCome_45
    · refine r_iload_n (i := 1) hO rfl rfl dX7_toCome_12 ?_
      refine r_aload_n (i := 0) hO rfl rfl dX7_toCome_13 ?_
      refine gX7_22 hO dX7_toCome_14 ?_
      refine r_iconst hO ci_4 dX7_toCome_17 ?_
      refine r_iload_n (i := 2) hO rfl rfl dX7_toCome_18 ?_
      refine r_imul hO dX7_toCome_19 ?_
      refine r_iald hO s_105 dX7_toCome_20 ?_
      refine r_aload_n (i := 0) hO rfl rfl dX7_toCome_21 ?_
      refine gX7_44 hO dX7_toCome_22 ?_
      refine r_bipush hO bi_37 dX7_toCome_25 ?_
      refine r_iald hO s_112 dX7_toCome_27 ?_
      refine r_icmp_le (tgt := 35) hO dX7_toCome_28 (by decide) ?_ ?_
      · refine r_iconst hO ci_0 dX7_toCome_35 ?_
        exact r_jmp (b_X7_toCome_36 hO hR ih x2 x1 (0 : Int32) σ) (lsub_c rfl (lsub_c rfl lsub_n))
      · refine r_iconst hO ci_1 dX7_toCome_31 ?_
        refine r_goto (tgt := 36) hO dX7_toCome_32 (by decide) ?_
        exact r_jmp (b_X7_toCome_36 hO hR ih x2 x1 (1 : Int32) σ) (lsub_c rfl (lsub_c rfl lsub_n))
set_option maxRecDepth 20000 in
set_option maxHeartbeats 1000000 in
theorem b_X7_toCome {K : Kt}  (hO : Ok K cX7_toCome RX7 3 rm_X7_toCome) (hR : Rt K (some .int))   (σ : Wd) : Cm K 3 (0, 0) (f_X7_toCome  σ) σ 0 [(0, .ref (K.G.A 102))] [] := by
  refine r_iconst hO ci_0 dX7_toCome_0 ?_
  refine r_istore_n (i := 1) hO rfl rfl rfl dX7_toCome_1 ?_
  refine r_iconst hO ci_0 dX7_toCome_2 ?_
  refine r_istore_n (i := 2) hO rfl rfl rfl dX7_toCome_3 ?_
  exact r_jmp (b_X7_toCome_4 hO hR FU (0 : Int32) (0 : Int32) σ) (lsub_c rfl (lsub_c rfl (lsub_c rfl lsub_n)))
theorem c_X7_toCome {l : Launch} {G : Gh}    (σ : Wd) : Con l G yX7_toCome cX7_toCome 3 (some .int) 0 0 [.ref (G.A 102)] σ (f_X7_toCome  σ) := Con.of (plainFor_of_name (by decide)) rfl (Nat.le_of_ble_eq_true rfl) (fun K hl hG hO hR => by subst hl; subst hG; exact b_X7_toCome hO hR   σ)
theorem cal_X7_toCome : CalV yX7_toCome cX7_toCome 3 (some .int) 0 := ⟨a_801, a_802, a_803, a_464, by decide, by decide, by decide +kernel⟩
theorem k_X7_toCome {K : Kt} {nL : Nat} {cs : Nat × Nat} {σ : Wd} {pc : Nat} {lv : List (Nat × Value)} {st : List Value} {cc : ByteArray} {own : String} {rm : Room} {index : Nat} {g : Int32 → Wd → Option (Int32 × Wd)}  (hO : Ok K cc own nL rm)  (hl : Cond.methodLink own index yX7_toCome ∈ gtb) (hcat : Nat.ble ((st.map fun v => v.category).sum) 8 = true) (hR : RoomOk rm cs 0 0 3) (d : decode cc pc = .ok (.invokevirtual index, 3)) (kk : ∀ (r : Int32) (σ : Wd), Cm K nL cs (g r σ) σ (pc + 3) lv (.int r :: st)) : Cm K nL cs (bd (f_X7_toCome  σ) g) σ pc lv (.ref (K.G.A 102) :: st) := r_cVi hO (c_X7_toCome   σ) cal_X7_toCome hl rfl (by decide) ent_X7 rfl rfl hcat hR d kk
/-! OrderSplitModel.isOver -/
def f_X7_isOver_17    (σ : Wd) : Option (Int32 × Wd) := gd (isb (0 : Int32)) (some ((0 : Int32), σ))
def f_X7_isOver_64   (s0 : Int32) (σ : Wd) : Option (Int32 × Wd) := gd (isb s0) (some (s0, σ))
def f_X7_isOver  (σ : Wd) : Option (Int32 × Wd) := gd (inb (36 : Int32) 179) (if (σ.1 112 (ix (36 : Int32))) = 0 then (f_X7_isOver_17 σ) else (bd (f_X7_isUnderWay σ) fun r1 σ2 => if r1 = 0 then (gd (inb (38 : Int32) 179) (if (σ2.1 112 (ix (38 : Int32))) = 0 then (gd (isb (1 : Int32)) (some ((1 : Int32), σ2))) else (bd (f_X7_toCome σ2) fun r3 σ4 => if r3 ≤ 0 then (gd (inb (38 : Int32) 179) (bd (f_X7_laysBest (σ4.1 112 (ix (38 : Int32))) (-1 : Int32) σ4) fun _ σ5 => if (σ5.1 102 37) = 0 then (f_X7_isOver_64 (1 : Int32) σ5) else (f_X7_isOver_64 (0 : Int32) σ5))) else (gd (isb (0 : Int32)) (some ((0 : Int32), σ4)))))) else (f_X7_isOver_17 σ2)))
set_option maxRecDepth 20000 in
set_option maxHeartbeats 1000000 in
theorem b_X7_isOver_17 {K : Kt}   (hO : Ok K cX7_isOver RX7 1 rm_X7_isOver) (hR : Rt K (some .boolean))    (σ : Wd)  : Cm K 1 (0, 0) (f_X7_isOver_17   σ) σ 17 [] [] := by
  refine r_iconst hO ci_0 dX7_isOver_17 ?_
  exact r_zret hO hR dX7_isOver_18
set_option maxRecDepth 20000 in
set_option maxHeartbeats 1000000 in
theorem b_X7_isOver_64 {K : Kt}   (hO : Ok K cX7_isOver RX7 1 rm_X7_isOver) (hR : Rt K (some .boolean))   (s0 : Int32) (σ : Wd)  : Cm K 1 (0, 0) (f_X7_isOver_64  s0 σ) σ 64 [] [.int s0] := by
  exact r_zret hO hR dX7_isOver_64
set_option maxRecDepth 20000 in
set_option maxHeartbeats 1000000 in
theorem b_X7_isOver {K : Kt}  (hO : Ok K cX7_isOver RX7 1 rm_X7_isOver) (hR : Rt K (some .boolean))   (σ : Wd) : Cm K 1 (0, 0) (f_X7_isOver  σ) σ 0 [(0, .ref (K.G.A 102))] [] := by
  refine r_aload_n (i := 0) hO rfl rfl dX7_isOver_0 ?_
  refine gX7_44 hO dX7_isOver_1 ?_
  refine r_bipush hO bi_36 dX7_isOver_4 ?_
  refine r_iald hO s_112 dX7_isOver_6 ?_
  refine r_if_eq (tgt := 17) hO dX7_isOver_7 (by decide) ?_ ?_
  · exact r_jmp (b_X7_isOver_17 hO hR σ) lsub_n
  · refine r_aload_n (i := 0) hO rfl rfl dX7_isOver_10 ?_
    refine k_X7_isUnderWay hO a_776 rfl ⟨rfl, rfl, Nat.le_refl _, Nat.le_refl _⟩ dX7_isOver_11 ?_
    intro r1 σ2
    refine r_if_eq (tgt := 19) hO dX7_isOver_14 (by decide) ?_ ?_
    · refine r_aload_n (i := 0) hO rfl rfl dX7_isOver_19 ?_
      refine gX7_44 hO dX7_isOver_20 ?_
      refine r_bipush hO bi_38 dX7_isOver_23 ?_
      refine r_iald hO s_112 dX7_isOver_25 ?_
      refine r_if_ne (tgt := 31) hO dX7_isOver_26 (by decide) ?_ ?_
      · refine r_iconst hO ci_1 dX7_isOver_29 ?_
        exact r_zret hO hR dX7_isOver_30
      · refine r_aload_n (i := 0) hO rfl rfl dX7_isOver_31 ?_
        refine k_X7_toCome hO a_804 rfl ⟨rfl, rfl, Nat.le_refl _, Nat.le_refl _⟩ dX7_isOver_32 ?_
        intro r3 σ4
        refine r_if_le (tgt := 40) hO dX7_isOver_35 (by decide) ?_ ?_
        · refine r_aload_n (i := 0) hO rfl rfl dX7_isOver_40 ?_
          refine r_aload_n (i := 0) hO rfl rfl dX7_isOver_41 ?_
          refine gX7_44 hO dX7_isOver_42 ?_
          refine r_bipush hO bi_38 dX7_isOver_45 ?_
          refine r_iald hO s_112 dX7_isOver_47 ?_
          refine r_iconst hO ci_m1 dX7_isOver_48 ?_
          refine k_X7_laysBest hO a_686 rfl ⟨rfl, rfl, Nat.le_refl _, Nat.le_refl _⟩ dX7_isOver_49 ?_
          intro _ σ5
          refine r_aload_n (i := 0) hO rfl rfl dX7_isOver_52 ?_
          refine gX7_305 hO dX7_isOver_53 ?_
          refine r_if_ne (tgt := 63) hO dX7_isOver_56 (by decide) ?_ ?_
          · refine r_iconst hO ci_1 dX7_isOver_59 ?_
            refine r_goto (tgt := 64) hO dX7_isOver_60 (by decide) ?_
            exact r_jmp (b_X7_isOver_64 hO hR (1 : Int32) σ5) lsub_n
          · refine r_iconst hO ci_0 dX7_isOver_63 ?_
            exact r_jmp (b_X7_isOver_64 hO hR (0 : Int32) σ5) lsub_n
        · refine r_iconst hO ci_0 dX7_isOver_38 ?_
          exact r_zret hO hR dX7_isOver_39
    · exact r_jmp (b_X7_isOver_17 hO hR σ2) lsub_n
theorem c_X7_isOver {l : Launch} {G : Gh}    (σ : Wd) : Con l G yX7_isOver cX7_isOver 1 (some .boolean) 7 163 [.ref (G.A 102)] σ (f_X7_isOver  σ) := Con.of (plainFor_of_name (by decide)) rfl (Nat.le_of_ble_eq_true rfl) (fun K hl hG hO hR => by subst hl; subst hG; exact b_X7_isOver hO hR   σ)
theorem cal_X7_isOver : CalV yX7_isOver cX7_isOver 1 (some .boolean) 0 := ⟨a_805, a_806, a_807, a_464, by decide, by decide, by decide +kernel⟩
theorem k_X7_isOver {K : Kt} {nL : Nat} {cs : Nat × Nat} {σ : Wd} {pc : Nat} {lv : List (Nat × Value)} {st : List Value} {cc : ByteArray} {own : String} {rm : Room} {index : Nat} {g : Int32 → Wd → Option (Int32 × Wd)}  (hO : Ok K cc own nL rm)  (hl : Cond.methodLink own index yX7_isOver ∈ gtb) (hcat : Nat.ble ((st.map fun v => v.category).sum) 8 = true) (hR : RoomOk rm cs 7 163 1) (d : decode cc pc = .ok (.invokevirtual index, 3)) (kk : ∀ (r : Int32) (σ : Wd), Cm K nL cs (g r σ) σ (pc + 3) lv (.int r :: st)) : Cm K nL cs (bd (f_X7_isOver  σ) g) σ pc lv (.ref (K.G.A 102) :: st) := r_cVi hO (c_X7_isOver   σ) cal_X7_isOver hl rfl (by decide) ent_X7 rfl rfl hcat hR d kk
/-! OrderSplitModel.isNow -/
def f_X7_isNow_104   (s0 : Int32) (σ : Wd) : Option (Int32 × Wd) := some (s0, σ)
def f_X7_isNow (a1 : Int32) (σ : Wd) : Option (Int32 × Wd) := if a1 = (0 : Int32) then (gd (inb (37 : Int32) 179) (some (σ.1 112 (ix (37 : Int32)), σ))) else (if a1 = (1 : Int32) then (gd (inb (38 : Int32) 179) (some (σ.1 112 (ix (38 : Int32)), σ))) else (if a1 = (2 : Int32) then (gd (inb (39 : Int32) 179) (some (σ.1 112 (ix (39 : Int32)), σ))) else (if a1 = (3 : Int32) then (gd (inb (40 : Int32) 179) (some (σ.1 112 (ix (40 : Int32)), σ))) else (if a1 = (4 : Int32) then (gd (inb (41 : Int32) 179) (some (σ.1 112 (ix (41 : Int32)), σ))) else (if a1 = (5 : Int32) then (gd (inb (42 : Int32) 179) (some (σ.1 112 (ix (42 : Int32)), σ))) else (if a1 = (6 : Int32) then (bd (f_X7_isOver σ) fun r1 σ2 => if r1 = 0 then (f_X7_isNow_104 (0 : Int32) σ2) else (f_X7_isNow_104 (1 : Int32) σ2)) else (bd (f_X7_toCome σ) fun r3 σ4 => some (r3, σ4))))))))
set_option maxRecDepth 20000 in
set_option maxHeartbeats 1000000 in
theorem b_X7_isNow_104 {K : Kt}   (hO : Ok K cX7_isNow RX7 2 rm_X7_isNow) (hR : Rt K (some .int))   (s0 : Int32) (σ : Wd)  : Cm K 2 (0, 0) (f_X7_isNow_104  s0 σ) σ 104 [] [.int s0] := by
  exact r_iret hO hR dX7_isNow_104
set_option maxRecDepth 20000 in
set_option maxHeartbeats 1000000 in
theorem b_X7_isNow {K : Kt}  (hO : Ok K cX7_isNow RX7 2 rm_X7_isNow) (hR : Rt K (some .int))  (a1 : Int32) (σ : Wd) : Cm K 2 (0, 0) (f_X7_isNow a1 σ) σ 0 [(0, .ref (K.G.A 102)), (1, .int a1)] [] := by
  refine r_iload_n (i := 1) hO rfl rfl dX7_isNow_0 ?_
  refine r_if (fun hc => ?_) (fun hc0 => ?_)
  · refine r_tsI (tgt := 44) hO dX7_isNow_1 hc (by decide) (by decide) rfl (by decide) ?_
    refine r_aload_n (i := 0) hO rfl rfl dX7_isNow_44 ?_
    refine gX7_44 hO dX7_isNow_45 ?_
    refine r_bipush hO bi_37 dX7_isNow_48 ?_
    refine r_iald hO s_112 dX7_isNow_50 ?_
    exact r_iret hO hR dX7_isNow_51
  · refine r_if (fun hc => ?_) (fun hc1 => ?_)
    · refine r_tsI (tgt := 52) hO dX7_isNow_1 hc (by decide) (by decide) rfl (by decide) ?_
      refine r_aload_n (i := 0) hO rfl rfl dX7_isNow_52 ?_
      refine gX7_44 hO dX7_isNow_53 ?_
      refine r_bipush hO bi_38 dX7_isNow_56 ?_
      refine r_iald hO s_112 dX7_isNow_58 ?_
      exact r_iret hO hR dX7_isNow_59
    · refine r_if (fun hc => ?_) (fun hc2 => ?_)
      · refine r_tsI (tgt := 60) hO dX7_isNow_1 hc (by decide) (by decide) rfl (by decide) ?_
        refine r_aload_n (i := 0) hO rfl rfl dX7_isNow_60 ?_
        refine gX7_44 hO dX7_isNow_61 ?_
        refine r_bipush hO bi_39 dX7_isNow_64 ?_
        refine r_iald hO s_112 dX7_isNow_66 ?_
        exact r_iret hO hR dX7_isNow_67
      · refine r_if (fun hc => ?_) (fun hc3 => ?_)
        · refine r_tsI (tgt := 68) hO dX7_isNow_1 hc (by decide) (by decide) rfl (by decide) ?_
          refine r_aload_n (i := 0) hO rfl rfl dX7_isNow_68 ?_
          refine gX7_44 hO dX7_isNow_69 ?_
          refine r_bipush hO bi_40 dX7_isNow_72 ?_
          refine r_iald hO s_112 dX7_isNow_74 ?_
          exact r_iret hO hR dX7_isNow_75
        · refine r_if (fun hc => ?_) (fun hc4 => ?_)
          · refine r_tsI (tgt := 76) hO dX7_isNow_1 hc (by decide) (by decide) rfl (by decide) ?_
            refine r_aload_n (i := 0) hO rfl rfl dX7_isNow_76 ?_
            refine gX7_44 hO dX7_isNow_77 ?_
            refine r_bipush hO bi_41 dX7_isNow_80 ?_
            refine r_iald hO s_112 dX7_isNow_82 ?_
            exact r_iret hO hR dX7_isNow_83
          · refine r_if (fun hc => ?_) (fun hc5 => ?_)
            · refine r_tsI (tgt := 84) hO dX7_isNow_1 hc (by decide) (by decide) rfl (by decide) ?_
              refine r_aload_n (i := 0) hO rfl rfl dX7_isNow_84 ?_
              refine gX7_44 hO dX7_isNow_85 ?_
              refine r_bipush hO bi_42 dX7_isNow_88 ?_
              refine r_iald hO s_112 dX7_isNow_90 ?_
              exact r_iret hO hR dX7_isNow_91
            · refine r_if (fun hc => ?_) (fun hc6 => ?_)
              · refine r_tsI (tgt := 92) hO dX7_isNow_1 hc (by decide) (by decide) rfl (by decide) ?_
                refine r_aload_n (i := 0) hO rfl rfl dX7_isNow_92 ?_
                refine k_X7_isOver hO a_808 rfl ⟨rfl, rfl, Nat.le_refl _, Nat.le_refl _⟩ dX7_isNow_93 ?_
                intro r1 σ2
                refine r_if_eq (tgt := 103) hO dX7_isNow_96 (by decide) ?_ ?_
                · refine r_iconst hO ci_0 dX7_isNow_103 ?_
                  exact r_jmp (b_X7_isNow_104 hO hR (0 : Int32) σ2) lsub_n
                · refine r_iconst hO ci_1 dX7_isNow_99 ?_
                  refine r_goto (tgt := 104) hO dX7_isNow_100 (by decide) ?_
                  exact r_jmp (b_X7_isNow_104 hO hR (1 : Int32) σ2) lsub_n
              · have h_0 := ne_i (n := 0) hc0 rfl
                have h_1 := ne_i (n := 1) hc1 rfl
                have h_2 := ne_i (n := 2) hc2 rfl
                have h_3 := ne_i (n := 3) hc3 rfl
                have h_4 := ne_i (n := 4) hc4 rfl
                have h_5 := ne_i (n := 5) hc5 rfl
                have h_6 := ne_i (n := 6) hc6 rfl
                refine r_tsO (tgt := 105) hO dX7_isNow_1 (by omega) (by decide) ?_
                refine r_aload_n (i := 0) hO rfl rfl dX7_isNow_105 ?_
                refine k_X7_toCome hO a_804 rfl ⟨rfl, rfl, Nat.le_refl _, Nat.le_refl _⟩ dX7_isNow_106 ?_
                intro r3 σ4
                exact r_iret hO hR dX7_isNow_109
theorem c_X7_isNow {l : Launch} {G : Gh}   (a1 : Int32) (σ : Wd) : Con l G yX7_isNow cX7_isNow 2 (some .int) 8 183 [.ref (G.A 102), .int a1] σ (f_X7_isNow a1 σ) := Con.of (plainFor_of_name (by decide)) rfl (Nat.le_of_ble_eq_true rfl) (fun K hl hG hO hR => by subst hl; subst hG; exact b_X7_isNow hO hR  a1 σ)
theorem cal_X7_isNow : CalV yX7_isNow cX7_isNow 2 (some .int) 1 := ⟨a_809, a_810, a_811, a_464, by decide, by decide, by decide +kernel⟩
theorem k_X7_isNow {K : Kt} {nL : Nat} {cs : Nat × Nat} {σ : Wd} {pc : Nat} {lv : List (Nat × Value)} {st : List Value} {cc : ByteArray} {own : String} {rm : Room} {index : Nat} {g : Int32 → Wd → Option (Int32 × Wd)} {a1 : Int32} (hO : Ok K cc own nL rm)  (hl : Cond.methodLink own index yX7_isNow ∈ gtb) (hcat : Nat.ble ((st.map fun v => v.category).sum) 8 = true) (hR : RoomOk rm cs 8 183 2) (d : decode cc pc = .ok (.invokevirtual index, 3)) (kk : ∀ (r : Int32) (σ : Wd), Cm K nL cs (g r σ) σ (pc + 3) lv (.int r :: st)) : Cm K nL cs (bd (f_X7_isNow a1 σ) g) σ pc lv (.int a1 :: .ref (K.G.A 102) :: st) := r_cVi hO (c_X7_isNow  a1 σ) cal_X7_isNow hl rfl (by decide) ent_X7 rfl rfl hcat hR d kk
/-! OrderSplitModel.refusesRun -/
def f_X7_refusesRun_30   (s0 : Int32) (σ : Wd) : Option (Int32 × Wd) := some (s0, σ)
def f_X7_refusesRun_11    (σ : Wd) : Option (Int32 × Wd) := (f_X7_refusesRun_30 (1 : Int32) σ)
def f_X7_refusesRun (a1 : Int32) (σ : Wd) : Option (Int32 × Wd) := if (σ.1 102 21) = 0 then (f_X7_refusesRun_11 σ) else (if a1 = 0 then (f_X7_refusesRun_11 σ) else (gd (inb (36 : Int32) 179) (if (σ.1 112 (ix (36 : Int32))) = 0 then (f_X7_refusesRun_30 (5 : Int32) σ) else (f_X7_refusesRun_30 (0 : Int32) σ))))
set_option maxRecDepth 20000 in
set_option maxHeartbeats 1000000 in
theorem b_X7_refusesRun_30 {K : Kt}   (hO : Ok K cX7_refusesRun RX7 2 rm_X7_refusesRun) (hR : Rt K (some .int))   (s0 : Int32) (σ : Wd)  : Cm K 2 (0, 0) (f_X7_refusesRun_30  s0 σ) σ 30 [] [.int s0] := by
  exact r_iret hO hR dX7_refusesRun_30
set_option maxRecDepth 20000 in
set_option maxHeartbeats 1000000 in
theorem b_X7_refusesRun_11 {K : Kt}   (hO : Ok K cX7_refusesRun RX7 2 rm_X7_refusesRun) (hR : Rt K (some .int))    (σ : Wd)  : Cm K 2 (0, 0) (f_X7_refusesRun_11   σ) σ 11 [] [] := by
  refine r_iconst hO ci_1 dX7_refusesRun_11 ?_
  refine r_goto (tgt := 30) hO dX7_refusesRun_12 (by decide) ?_
  exact r_jmp (b_X7_refusesRun_30 hO hR (1 : Int32) σ) lsub_n
set_option maxRecDepth 20000 in
set_option maxHeartbeats 1000000 in
theorem b_X7_refusesRun {K : Kt}  (hO : Ok K cX7_refusesRun RX7 2 rm_X7_refusesRun) (hR : Rt K (some .int))  (a1 : Int32) (σ : Wd) : Cm K 2 (0, 0) (f_X7_refusesRun a1 σ) σ 0 [(0, .ref (K.G.A 102)), (1, .int a1)] [] := by
  refine r_aload_n (i := 0) hO rfl rfl dX7_refusesRun_0 ?_
  refine gX7_241 hO dX7_refusesRun_1 ?_
  refine r_if_eq (tgt := 11) hO dX7_refusesRun_4 (by decide) ?_ ?_
  · exact r_jmp (b_X7_refusesRun_11 hO hR σ) lsub_n
  · refine r_iload_n (i := 1) hO rfl rfl dX7_refusesRun_7 ?_
    refine r_if_ne (tgt := 15) hO dX7_refusesRun_8 (by decide) ?_ ?_
    · exact r_jmp (b_X7_refusesRun_11 hO hR σ) lsub_n
    · refine r_aload_n (i := 0) hO rfl rfl dX7_refusesRun_15 ?_
      refine gX7_44 hO dX7_refusesRun_16 ?_
      refine r_bipush hO bi_36 dX7_refusesRun_19 ?_
      refine r_iald hO s_112 dX7_refusesRun_21 ?_
      refine r_if_ne (tgt := 29) hO dX7_refusesRun_22 (by decide) ?_ ?_
      · refine r_iconst hO ci_5 dX7_refusesRun_25 ?_
        refine r_goto (tgt := 30) hO dX7_refusesRun_26 (by decide) ?_
        exact r_jmp (b_X7_refusesRun_30 hO hR (5 : Int32) σ) lsub_n
      · refine r_iconst hO ci_0 dX7_refusesRun_29 ?_
        exact r_jmp (b_X7_refusesRun_30 hO hR (0 : Int32) σ) lsub_n
theorem c_X7_refusesRun {l : Launch} {G : Gh}   (a1 : Int32) (σ : Wd) : Con l G yX7_refusesRun cX7_refusesRun 2 (some .int) 0 0 [.ref (G.A 102), .int a1] σ (f_X7_refusesRun a1 σ) := Con.of (plainFor_of_name (by decide)) rfl (Nat.le_of_ble_eq_true rfl) (fun K hl hG hO hR => by subst hl; subst hG; exact b_X7_refusesRun hO hR  a1 σ)
theorem cal_X7_refusesRun : CalV yX7_refusesRun cX7_refusesRun 2 (some .int) 1 := ⟨a_812, a_813, a_814, a_464, by decide, by decide, by decide +kernel⟩
theorem k_X7_refusesRun {K : Kt} {nL : Nat} {cs : Nat × Nat} {σ : Wd} {pc : Nat} {lv : List (Nat × Value)} {st : List Value} {cc : ByteArray} {own : String} {rm : Room} {index : Nat} {g : Int32 → Wd → Option (Int32 × Wd)} {a1 : Int32} (hO : Ok K cc own nL rm)  (hl : Cond.methodLink own index yX7_refusesRun ∈ gtb) (hcat : Nat.ble ((st.map fun v => v.category).sum) 8 = true) (hR : RoomOk rm cs 0 0 2) (d : decode cc pc = .ok (.invokevirtual index, 3)) (kk : ∀ (r : Int32) (σ : Wd), Cm K nL cs (g r σ) σ (pc + 3) lv (.int r :: st)) : Cm K nL cs (bd (f_X7_refusesRun a1 σ) g) σ pc lv (.int a1 :: .ref (K.G.A 102) :: st) := r_cVi hO (c_X7_refusesRun  a1 σ) cal_X7_refusesRun hl rfl (by decide) ent_X7 rfl rfl hcat hR d kk
/-! OrderSplitModel.now -/
def f_X7_now_38   (s0 : Int32) (σ : Wd) : Option (Int32 × Wd) := some (s0, σ)
def f_X7_now (a1 : Int32) (σ : Wd) : Option (Int32 × Wd) := nmW (wi σ 102 0 (0 : Int32)) fun σ1 => bd (f_X7_in a1 (0 : Int32) (7 : Int32) σ1) fun r2 σ3 => bd (f_X7_refusesRun r2 σ3) fun r4 σ5 => if r4 ≤ 0 then (bd (f_X7_isNow a1 σ5) fun r6 σ7 => bd (f_X7_good r6 σ7) fun r8 σ9 => (f_X7_now_38 r8 σ9)) else (bd (f_X7_refusedLow r4 σ5) fun r10 σ11 => (f_X7_now_38 r10 σ11))
set_option maxRecDepth 20000 in
set_option maxHeartbeats 1000000 in
theorem b_X7_now_38 {K : Kt}   (hO : Ok K cX7_now RX7 3 rm_X7_now) (hR : Rt K (some .int))   (s0 : Int32) (σ : Wd)  : Cm K 3 (0, 0) (f_X7_now_38  s0 σ) σ 38 [] [.int s0] := by
  exact r_iret hO hR dX7_now_38
set_option maxRecDepth 20000 in
set_option maxHeartbeats 1000000 in
theorem b_X7_now {K : Kt}  (hO : Ok K cX7_now RX7 3 rm_X7_now) (hR : Rt K (some .int))  (a1 : Int32) (σ : Wd) : Cm K 3 (0, 0) (f_X7_now a1 σ) σ 0 [(0, .ref (K.G.A 102)), (1, .int a1)] [] := by
  refine r_aload_n (i := 0) hO rfl rfl dX7_now_0 ?_
  refine r_iconst hO ci_0 dX7_now_1 ?_
  refine pX7_70 hO dX7_now_2 ?_
  refine r_nmW fun σ1 => ?_
  refine r_aload_n (i := 0) hO rfl rfl dX7_now_5 ?_
  refine r_iload_n (i := 1) hO rfl rfl dX7_now_6 ?_
  refine r_iconst hO ci_0 dX7_now_7 ?_
  refine r_bipush hO bi_7 dX7_now_8 ?_
  refine k_X7_in hO a_483 rfl ⟨rfl, rfl, Nat.le_refl _, Nat.le_refl _⟩ dX7_now_10 ?_
  intro r2 σ3
  refine k_X7_refusesRun hO a_815 rfl ⟨rfl, rfl, Nat.le_refl _, Nat.le_refl _⟩ dX7_now_13 ?_
  intro r4 σ5
  refine r_istore_n (i := 2) hO rfl rfl rfl dX7_now_16 ?_
  refine r_iload_n (i := 2) hO rfl rfl dX7_now_17 ?_
  refine r_if_le (tgt := 29) hO dX7_now_18 (by decide) ?_ ?_
  · refine r_aload_n (i := 0) hO rfl rfl dX7_now_29 ?_
    refine r_aload_n (i := 0) hO rfl rfl dX7_now_30 ?_
    refine r_iload_n (i := 1) hO rfl rfl dX7_now_31 ?_
    refine k_X7_isNow hO a_816 rfl ⟨rfl, rfl, Nat.le_refl _, Nat.le_refl _⟩ dX7_now_32 ?_
    intro r6 σ7
    refine k_X7_good hO a_592 rfl ⟨rfl, rfl, Nat.le_refl _, Nat.le_refl _⟩ dX7_now_35 ?_
    intro r8 σ9
    exact r_jmp (b_X7_now_38 hO hR r8 σ9) lsub_n
  · refine r_aload_n (i := 0) hO rfl rfl dX7_now_21 ?_
    refine r_iload_n (i := 2) hO rfl rfl dX7_now_22 ?_
    refine k_X7_refusedLow hO a_642 rfl ⟨rfl, rfl, Nat.le_refl _, Nat.le_refl _⟩ dX7_now_23 ?_
    intro r10 σ11
    refine r_goto (tgt := 38) hO dX7_now_26 (by decide) ?_
    exact r_jmp (b_X7_now_38 hO hR r10 σ11) lsub_n
theorem c_X7_now {l : Launch} {G : Gh}   (a1 : Int32) (σ : Wd) : Con l G yX7_now cX7_now 3 (some .int) 9 204 [.ref (G.A 102), .int a1] σ (f_X7_now a1 σ) := Con.of (plainFor_of_name (by decide)) rfl (Nat.le_of_ble_eq_true rfl) (fun K hl hG hO hR => by subst hl; subst hG; exact b_X7_now hO hR  a1 σ)
theorem cal_X7_now : CalV yX7_now cX7_now 3 (some .int) 1 := ⟨a_817, a_818, a_819, a_464, by decide, by decide, by decide +kernel⟩
theorem k_X7_now {K : Kt} {nL : Nat} {cs : Nat × Nat} {σ : Wd} {pc : Nat} {lv : List (Nat × Value)} {st : List Value} {cc : ByteArray} {own : String} {rm : Room} {index : Nat} {g : Int32 → Wd → Option (Int32 × Wd)} {a1 : Int32} (hO : Ok K cc own nL rm)  (hl : Cond.methodLink own index yX7_now ∈ gtb) (hcat : Nat.ble ((st.map fun v => v.category).sum) 8 = true) (hR : RoomOk rm cs 9 204 3) (d : decode cc pc = .ok (.invokevirtual index, 3)) (kk : ∀ (r : Int32) (σ : Wd), Cm K nL cs (g r σ) σ (pc + 3) lv (.int r :: st)) : Cm K nL cs (bd (f_X7_now a1 σ) g) σ pc lv (.int a1 :: .ref (K.G.A 102) :: st) := r_cVi hO (c_X7_now  a1 σ) cal_X7_now hl rfl (by decide) ent_X7 rfl rfl hcat hR d kk
/-! OrderSplitModel.part -/
def f_X7_part_55   (s0 : Int32) (σ : Wd) : Option (Int32 × Wd) := some (s0, σ)
def f_X7_part_29   (x1 : Int32) (x2 : Int32) (s1 : Int32) (σ : Wd) : Option (Int32 × Wd) := bd (f_X7_refusesRun s1 σ) fun r1 σ2 => if r1 ≤ 0 then (bd (f_X7_partIs x1 x2 σ2) fun r3 σ4 => bd (f_X7_good r3 σ4) fun r5 σ6 => (f_X7_part_55 r5 σ6)) else (bd (f_X7_refusedLow r1 σ2) fun r7 σ8 => (f_X7_part_55 r7 σ8))
def f_X7_part_28   (x1 : Int32) (x2 : Int32) (σ : Wd) : Option (Int32 × Wd) := (f_X7_part_29 x1 x2 (0 : Int32) σ)
def f_X7_part (a1 : Int32) (a2 : Int32) (σ : Wd) : Option (Int32 × Wd) := nmW (wi σ 102 0 (0 : Int32)) fun σ1 => bd (f_X7_isVenue a1 σ1) fun r2 σ3 => if r2 = 0 then (f_X7_part_28 a1 a2 σ3) else (bd (f_X7_in a2 (0 : Int32) (6 : Int32) σ3) fun r4 σ5 => if r4 = 0 then (f_X7_part_28 a1 a2 σ5) else (f_X7_part_29 a1 a2 (1 : Int32) σ5))
set_option maxRecDepth 20000 in
set_option maxHeartbeats 1000000 in
theorem b_X7_part_55 {K : Kt}   (hO : Ok K cX7_part RX7 4 rm_X7_part) (hR : Rt K (some .int))   (s0 : Int32) (σ : Wd)  : Cm K 4 (0, 0) (f_X7_part_55  s0 σ) σ 55 [] [.int s0] := by
  exact r_iret hO hR dX7_part_55
set_option maxRecDepth 20000 in
set_option maxHeartbeats 1000000 in
theorem b_X7_part_29 {K : Kt}   (hO : Ok K cX7_part RX7 4 rm_X7_part) (hR : Rt K (some .int))   (x1 : Int32) (x2 : Int32) (s1 : Int32) (σ : Wd)  : Cm K 4 (0, 0) (f_X7_part_29  x1 x2 s1 σ) σ 29 [(0, .ref (K.G.A 102)), (1, .int x1), (2, .int x2)] [.int s1, .ref (K.G.A 102)] := by
  refine k_X7_refusesRun hO a_815 rfl ⟨rfl, rfl, Nat.le_refl _, Nat.le_refl _⟩ dX7_part_29 ?_
  intro r1 σ2
  refine r_istore_n (i := 3) hO rfl rfl rfl dX7_part_32 ?_
  refine r_iload_n (i := 3) hO rfl rfl dX7_part_33 ?_
  refine r_if_le (tgt := 45) hO dX7_part_34 (by decide) ?_ ?_
  · refine r_aload_n (i := 0) hO rfl rfl dX7_part_45 ?_
    refine r_aload_n (i := 0) hO rfl rfl dX7_part_46 ?_
    refine r_iload_n (i := 1) hO rfl rfl dX7_part_47 ?_
    refine r_iload_n (i := 2) hO rfl rfl dX7_part_48 ?_
    refine k_X7_partIs hO a_768 rfl ⟨rfl, rfl, Nat.le_refl _, Nat.le_refl _⟩ dX7_part_49 ?_
    intro r3 σ4
    refine k_X7_good hO a_592 rfl ⟨rfl, rfl, Nat.le_refl _, Nat.le_refl _⟩ dX7_part_52 ?_
    intro r5 σ6
    exact r_jmp (b_X7_part_55 hO hR r5 σ6) lsub_n
  · refine r_aload_n (i := 0) hO rfl rfl dX7_part_37 ?_
    refine r_iload_n (i := 3) hO rfl rfl dX7_part_38 ?_
    refine k_X7_refusedLow hO a_642 rfl ⟨rfl, rfl, Nat.le_refl _, Nat.le_refl _⟩ dX7_part_39 ?_
    intro r7 σ8
    refine r_goto (tgt := 55) hO dX7_part_42 (by decide) ?_
    exact r_jmp (b_X7_part_55 hO hR r7 σ8) lsub_n
set_option maxRecDepth 20000 in
set_option maxHeartbeats 1000000 in
theorem b_X7_part_28 {K : Kt}   (hO : Ok K cX7_part RX7 4 rm_X7_part) (hR : Rt K (some .int))   (x1 : Int32) (x2 : Int32) (σ : Wd)  : Cm K 4 (0, 0) (f_X7_part_28  x1 x2 σ) σ 28 [(0, .ref (K.G.A 102)), (1, .int x1), (2, .int x2)] [.ref (K.G.A 102)] := by
  refine r_iconst hO ci_0 dX7_part_28 ?_
  exact r_jmp (b_X7_part_29 hO hR x1 x2 (0 : Int32) σ) (lsub_c rfl (lsub_c rfl (lsub_c rfl lsub_n)))
set_option maxRecDepth 20000 in
set_option maxHeartbeats 1000000 in
theorem b_X7_part {K : Kt}  (hO : Ok K cX7_part RX7 4 rm_X7_part) (hR : Rt K (some .int))  (a1 : Int32) (a2 : Int32) (σ : Wd) : Cm K 4 (0, 0) (f_X7_part a1 a2 σ) σ 0 [(0, .ref (K.G.A 102)), (1, .int a1), (2, .int a2)] [] := by
  refine r_aload_n (i := 0) hO rfl rfl dX7_part_0 ?_
  refine r_iconst hO ci_0 dX7_part_1 ?_
  refine pX7_70 hO dX7_part_2 ?_
  refine r_nmW fun σ1 => ?_
  refine r_aload_n (i := 0) hO rfl rfl dX7_part_5 ?_
  refine r_aload_n (i := 0) hO rfl rfl dX7_part_6 ?_
  refine r_iload_n (i := 1) hO rfl rfl dX7_part_7 ?_
  refine k_X7_isVenue hO a_641 rfl ⟨rfl, rfl, Nat.le_refl _, Nat.le_refl _⟩ dX7_part_8 ?_
  intro r2 σ3
  refine r_if_eq (tgt := 28) hO dX7_part_11 (by decide) ?_ ?_
  · exact r_jmp (b_X7_part_28 hO hR a1 a2 σ3) (lsub_c rfl (lsub_c rfl (lsub_c rfl lsub_n)))
  · refine r_iload_n (i := 2) hO rfl rfl dX7_part_14 ?_
    refine r_iconst hO ci_0 dX7_part_15 ?_
    refine r_bipush hO bi_6 dX7_part_16 ?_
    refine k_X7_in hO a_483 rfl ⟨rfl, rfl, Nat.le_refl _, Nat.le_refl _⟩ dX7_part_18 ?_
    intro r4 σ5
    refine r_if_eq (tgt := 28) hO dX7_part_21 (by decide) ?_ ?_
    · exact r_jmp (b_X7_part_28 hO hR a1 a2 σ5) (lsub_c rfl (lsub_c rfl (lsub_c rfl lsub_n)))
    · refine r_iconst hO ci_1 dX7_part_24 ?_
      refine r_goto (tgt := 29) hO dX7_part_25 (by decide) ?_
      exact r_jmp (b_X7_part_29 hO hR a1 a2 (1 : Int32) σ5) (lsub_c rfl (lsub_c rfl (lsub_c rfl lsub_n)))
theorem c_X7_part {l : Launch} {G : Gh}   (a1 : Int32) (a2 : Int32) (σ : Wd) : Con l G yX7_part cX7_part 4 (some .int) 2 43 [.ref (G.A 102), .int a1, .int a2] σ (f_X7_part a1 a2 σ) := Con.of (plainFor_of_name (by decide)) rfl (Nat.le_of_ble_eq_true rfl) (fun K hl hG hO hR => by subst hl; subst hG; exact b_X7_part hO hR  a1 a2 σ)
theorem cal_X7_part : CalV yX7_part cX7_part 4 (some .int) 2 := ⟨a_820, a_821, a_822, a_464, by decide, by decide, by decide +kernel⟩
theorem k_X7_part {K : Kt} {nL : Nat} {cs : Nat × Nat} {σ : Wd} {pc : Nat} {lv : List (Nat × Value)} {st : List Value} {cc : ByteArray} {own : String} {rm : Room} {index : Nat} {g : Int32 → Wd → Option (Int32 × Wd)} {a1 : Int32} {a2 : Int32} (hO : Ok K cc own nL rm)  (hl : Cond.methodLink own index yX7_part ∈ gtb) (hcat : Nat.ble ((st.map fun v => v.category).sum) 8 = true) (hR : RoomOk rm cs 2 43 4) (d : decode cc pc = .ok (.invokevirtual index, 3)) (kk : ∀ (r : Int32) (σ : Wd), Cm K nL cs (g r σ) σ (pc + 3) lv (.int r :: st)) : Cm K nL cs (bd (f_X7_part a1 a2 σ) g) σ pc lv (.int a2 :: .int a1 :: .ref (K.G.A 102) :: st) := r_cVi hO (c_X7_part  a1 a2 σ) cal_X7_part hl rfl (by decide) ent_X7 rfl rfl hcat hR d kk
/-! OrderSplitModel.entries -/
def f_X7_entries_34   (s0 : Int32) (σ : Wd) : Option (Int32 × Wd) := some (s0, σ)
def f_X7_entries  (σ : Wd) : Option (Int32 × Wd) := nmW (wi σ 102 0 (0 : Int32)) fun σ1 => bd (f_X7_refusesRun (1 : Int32) σ1) fun r2 σ3 => if r2 ≤ 0 then (gd (inb (88 : Int32) 179) (bd (f_X7_good (σ3.1 112 (ix (88 : Int32))) σ3) fun r4 σ5 => (f_X7_entries_34 r4 σ5))) else (bd (f_X7_refused r2 σ3) fun r6 σ7 => (f_X7_entries_34 r6 σ7))
set_option maxRecDepth 20000 in
set_option maxHeartbeats 1000000 in
theorem b_X7_entries_34 {K : Kt}   (hO : Ok K cX7_entries RX7 2 rm_X7_entries) (hR : Rt K (some .int))   (s0 : Int32) (σ : Wd)  : Cm K 2 (0, 0) (f_X7_entries_34  s0 σ) σ 34 [] [.int s0] := by
  exact r_iret hO hR dX7_entries_34
set_option maxRecDepth 20000 in
set_option maxHeartbeats 1000000 in
theorem b_X7_entries {K : Kt}  (hO : Ok K cX7_entries RX7 2 rm_X7_entries) (hR : Rt K (some .int))   (σ : Wd) : Cm K 2 (0, 0) (f_X7_entries  σ) σ 0 [(0, .ref (K.G.A 102))] [] := by
  refine r_aload_n (i := 0) hO rfl rfl dX7_entries_0 ?_
  refine r_iconst hO ci_0 dX7_entries_1 ?_
  refine pX7_70 hO dX7_entries_2 ?_
  refine r_nmW fun σ1 => ?_
  refine r_aload_n (i := 0) hO rfl rfl dX7_entries_5 ?_
  refine r_iconst hO ci_1 dX7_entries_6 ?_
  refine k_X7_refusesRun hO a_815 rfl ⟨rfl, rfl, Nat.le_refl _, Nat.le_refl _⟩ dX7_entries_7 ?_
  intro r2 σ3
  refine r_istore_n (i := 1) hO rfl rfl rfl dX7_entries_10 ?_
  refine r_iload_n (i := 1) hO rfl rfl dX7_entries_11 ?_
  refine r_if_le (tgt := 23) hO dX7_entries_12 (by decide) ?_ ?_
  · refine r_aload_n (i := 0) hO rfl rfl dX7_entries_23 ?_
    refine r_aload_n (i := 0) hO rfl rfl dX7_entries_24 ?_
    refine gX7_44 hO dX7_entries_25 ?_
    refine r_bipush hO bi_88 dX7_entries_28 ?_
    refine r_iald hO s_112 dX7_entries_30 ?_
    refine k_X7_good hO a_592 rfl ⟨rfl, rfl, Nat.le_refl _, Nat.le_refl _⟩ dX7_entries_31 ?_
    intro r4 σ5
    exact r_jmp (b_X7_entries_34 hO hR r4 σ5) lsub_n
  · refine r_aload_n (i := 0) hO rfl rfl dX7_entries_15 ?_
    refine r_iload_n (i := 1) hO rfl rfl dX7_entries_16 ?_
    refine k_X7_refused hO a_465 rfl ⟨rfl, rfl, Nat.le_refl _, Nat.le_refl _⟩ dX7_entries_17 ?_
    intro r6 σ7
    refine r_goto (tgt := 34) hO dX7_entries_20 (by decide) ?_
    exact r_jmp (b_X7_entries_34 hO hR r6 σ7) lsub_n
theorem c_X7_entries {l : Launch} {G : Gh}    (σ : Wd) : Con l G yX7_entries cX7_entries 2 (some .int) 1 21 [.ref (G.A 102)] σ (f_X7_entries  σ) := Con.of (plainFor_of_name (by decide)) rfl (Nat.le_of_ble_eq_true rfl) (fun K hl hG hO hR => by subst hl; subst hG; exact b_X7_entries hO hR   σ)
theorem cal_X7_entries : CalV yX7_entries cX7_entries 2 (some .int) 0 := ⟨a_823, a_824, a_825, a_464, by decide, by decide, by decide +kernel⟩
theorem k_X7_entries {K : Kt} {nL : Nat} {cs : Nat × Nat} {σ : Wd} {pc : Nat} {lv : List (Nat × Value)} {st : List Value} {cc : ByteArray} {own : String} {rm : Room} {index : Nat} {g : Int32 → Wd → Option (Int32 × Wd)}  (hO : Ok K cc own nL rm)  (hl : Cond.methodLink own index yX7_entries ∈ gtb) (hcat : Nat.ble ((st.map fun v => v.category).sum) 8 = true) (hR : RoomOk rm cs 1 21 2) (d : decode cc pc = .ok (.invokevirtual index, 3)) (kk : ∀ (r : Int32) (σ : Wd), Cm K nL cs (g r σ) σ (pc + 3) lv (.int r :: st)) : Cm K nL cs (bd (f_X7_entries  σ) g) σ pc lv (.ref (K.G.A 102) :: st) := r_cVi hO (c_X7_entries   σ) cal_X7_entries hl rfl (by decide) ent_X7 rfl rfl hcat hR d kk
/-! OrderSplitModel.entry -/
def f_X7_entry_77   (s0 : Int32) (σ : Wd) : Option (Int32 × Wd) := some (s0, σ)
def f_X7_entry_44   (x1 : Int32) (x2 : Int32) (s1 : Int32) (σ : Wd) : Option (Int32 × Wd) := bd (f_X7_refusesRun s1 σ) fun r1 σ2 => if r1 ≤ 0 then (gd (inb (((89 : Int32) + ((3 : Int32) * x1)) + x2) 179) (bd (f_X7_good (σ2.1 112 (ix (((89 : Int32) + ((3 : Int32) * x1)) + x2))) σ2) fun r3 σ4 => (f_X7_entry_77 r3 σ4))) else (bd (f_X7_refused r1 σ2) fun r5 σ6 => (f_X7_entry_77 r5 σ6))
def f_X7_entry_43   (x1 : Int32) (x2 : Int32) (σ : Wd) : Option (Int32 × Wd) := (f_X7_entry_44 x1 x2 (0 : Int32) σ)
def f_X7_entry (a1 : Int32) (a2 : Int32) (σ : Wd) : Option (Int32 × Wd) := nmW (wi σ 102 0 (0 : Int32)) fun σ1 => if (σ1.1 102 21) = 0 then (f_X7_entry_43 a1 a2 σ1) else (gd (inb (88 : Int32) 179) (bd (f_X7_in a1 (0 : Int32) ((σ1.1 112 (ix (88 : Int32))) - (1 : Int32)) σ1) fun r2 σ3 => if r2 = 0 then (f_X7_entry_43 a1 a2 σ3) else (bd (f_X7_in a2 (0 : Int32) (2 : Int32) σ3) fun r4 σ5 => if r4 = 0 then (f_X7_entry_43 a1 a2 σ5) else (f_X7_entry_44 a1 a2 (1 : Int32) σ5))))
set_option maxRecDepth 20000 in
set_option maxHeartbeats 1000000 in
theorem b_X7_entry_77 {K : Kt}   (hO : Ok K cX7_entry RX7 4 rm_X7_entry) (hR : Rt K (some .int))   (s0 : Int32) (σ : Wd)  : Cm K 4 (0, 0) (f_X7_entry_77  s0 σ) σ 77 [] [.int s0] := by
  exact r_iret hO hR dX7_entry_77
set_option maxRecDepth 20000 in
set_option maxHeartbeats 1000000 in
theorem b_X7_entry_44 {K : Kt}   (hO : Ok K cX7_entry RX7 4 rm_X7_entry) (hR : Rt K (some .int))   (x1 : Int32) (x2 : Int32) (s1 : Int32) (σ : Wd)  : Cm K 4 (0, 0) (f_X7_entry_44  x1 x2 s1 σ) σ 44 [(0, .ref (K.G.A 102)), (1, .int x1), (2, .int x2)] [.int s1, .ref (K.G.A 102)] := by
  refine k_X7_refusesRun hO a_815 rfl ⟨rfl, rfl, Nat.le_refl _, Nat.le_refl _⟩ dX7_entry_44 ?_
  intro r1 σ2
  refine r_istore_n (i := 3) hO rfl rfl rfl dX7_entry_47 ?_
  refine r_iload_n (i := 3) hO rfl rfl dX7_entry_48 ?_
  refine r_if_le (tgt := 60) hO dX7_entry_49 (by decide) ?_ ?_
  · refine r_aload_n (i := 0) hO rfl rfl dX7_entry_60 ?_
    refine r_aload_n (i := 0) hO rfl rfl dX7_entry_61 ?_
    refine gX7_44 hO dX7_entry_62 ?_
    refine r_bipush hO bi_89 dX7_entry_65 ?_
    refine r_iconst hO ci_3 dX7_entry_67 ?_
    refine r_iload_n (i := 1) hO rfl rfl dX7_entry_68 ?_
    refine r_imul hO dX7_entry_69 ?_
    refine r_iadd hO dX7_entry_70 ?_
    refine r_iload_n (i := 2) hO rfl rfl dX7_entry_71 ?_
    refine r_iadd hO dX7_entry_72 ?_
    refine r_iald hO s_112 dX7_entry_73 ?_
    refine k_X7_good hO a_592 rfl ⟨rfl, rfl, Nat.le_refl _, Nat.le_refl _⟩ dX7_entry_74 ?_
    intro r3 σ4
    exact r_jmp (b_X7_entry_77 hO hR r3 σ4) lsub_n
  · refine r_aload_n (i := 0) hO rfl rfl dX7_entry_52 ?_
    refine r_iload_n (i := 3) hO rfl rfl dX7_entry_53 ?_
    refine k_X7_refused hO a_465 rfl ⟨rfl, rfl, Nat.le_refl _, Nat.le_refl _⟩ dX7_entry_54 ?_
    intro r5 σ6
    refine r_goto (tgt := 77) hO dX7_entry_57 (by decide) ?_
    exact r_jmp (b_X7_entry_77 hO hR r5 σ6) lsub_n
set_option maxRecDepth 20000 in
set_option maxHeartbeats 1000000 in
theorem b_X7_entry_43 {K : Kt}   (hO : Ok K cX7_entry RX7 4 rm_X7_entry) (hR : Rt K (some .int))   (x1 : Int32) (x2 : Int32) (σ : Wd)  : Cm K 4 (0, 0) (f_X7_entry_43  x1 x2 σ) σ 43 [(0, .ref (K.G.A 102)), (1, .int x1), (2, .int x2)] [.ref (K.G.A 102)] := by
  refine r_iconst hO ci_0 dX7_entry_43 ?_
  exact r_jmp (b_X7_entry_44 hO hR x1 x2 (0 : Int32) σ) (lsub_c rfl (lsub_c rfl (lsub_c rfl lsub_n)))
set_option maxRecDepth 20000 in
set_option maxHeartbeats 1000000 in
theorem b_X7_entry {K : Kt}  (hO : Ok K cX7_entry RX7 4 rm_X7_entry) (hR : Rt K (some .int))  (a1 : Int32) (a2 : Int32) (σ : Wd) : Cm K 4 (0, 0) (f_X7_entry a1 a2 σ) σ 0 [(0, .ref (K.G.A 102)), (1, .int a1), (2, .int a2)] [] := by
  refine r_aload_n (i := 0) hO rfl rfl dX7_entry_0 ?_
  refine r_iconst hO ci_0 dX7_entry_1 ?_
  refine pX7_70 hO dX7_entry_2 ?_
  refine r_nmW fun σ1 => ?_
  refine r_aload_n (i := 0) hO rfl rfl dX7_entry_5 ?_
  refine r_aload_n (i := 0) hO rfl rfl dX7_entry_6 ?_
  refine gX7_241 hO dX7_entry_7 ?_
  refine r_if_eq (tgt := 43) hO dX7_entry_10 (by decide) ?_ ?_
  · exact r_jmp (b_X7_entry_43 hO hR a1 a2 σ1) (lsub_c rfl (lsub_c rfl (lsub_c rfl lsub_n)))
  · refine r_iload_n (i := 1) hO rfl rfl dX7_entry_13 ?_
    refine r_iconst hO ci_0 dX7_entry_14 ?_
    refine r_aload_n (i := 0) hO rfl rfl dX7_entry_15 ?_
    refine gX7_44 hO dX7_entry_16 ?_
    refine r_bipush hO bi_88 dX7_entry_19 ?_
    refine r_iald hO s_112 dX7_entry_21 ?_
    refine r_iconst hO ci_1 dX7_entry_22 ?_
    refine r_isub hO dX7_entry_23 ?_
    refine k_X7_in hO a_483 rfl ⟨rfl, rfl, Nat.le_refl _, Nat.le_refl _⟩ dX7_entry_24 ?_
    intro r2 σ3
    refine r_if_eq (tgt := 43) hO dX7_entry_27 (by decide) ?_ ?_
    · exact r_jmp (b_X7_entry_43 hO hR a1 a2 σ3) (lsub_c rfl (lsub_c rfl (lsub_c rfl lsub_n)))
    · refine r_iload_n (i := 2) hO rfl rfl dX7_entry_30 ?_
      refine r_iconst hO ci_0 dX7_entry_31 ?_
      refine r_iconst hO ci_2 dX7_entry_32 ?_
      refine k_X7_in hO a_483 rfl ⟨rfl, rfl, Nat.le_refl _, Nat.le_refl _⟩ dX7_entry_33 ?_
      intro r4 σ5
      refine r_if_eq (tgt := 43) hO dX7_entry_36 (by decide) ?_ ?_
      · exact r_jmp (b_X7_entry_43 hO hR a1 a2 σ5) (lsub_c rfl (lsub_c rfl (lsub_c rfl lsub_n)))
      · refine r_iconst hO ci_1 dX7_entry_39 ?_
        refine r_goto (tgt := 44) hO dX7_entry_40 (by decide) ?_
        exact r_jmp (b_X7_entry_44 hO hR a1 a2 (1 : Int32) σ5) (lsub_c rfl (lsub_c rfl (lsub_c rfl lsub_n)))
theorem c_X7_entry {l : Launch} {G : Gh}   (a1 : Int32) (a2 : Int32) (σ : Wd) : Con l G yX7_entry cX7_entry 4 (some .int) 1 22 [.ref (G.A 102), .int a1, .int a2] σ (f_X7_entry a1 a2 σ) := Con.of (plainFor_of_name (by decide)) rfl (Nat.le_of_ble_eq_true rfl) (fun K hl hG hO hR => by subst hl; subst hG; exact b_X7_entry hO hR  a1 a2 σ)
theorem cal_X7_entry : CalV yX7_entry cX7_entry 4 (some .int) 2 := ⟨a_826, a_827, a_828, a_464, by decide, by decide, by decide +kernel⟩
theorem k_X7_entry {K : Kt} {nL : Nat} {cs : Nat × Nat} {σ : Wd} {pc : Nat} {lv : List (Nat × Value)} {st : List Value} {cc : ByteArray} {own : String} {rm : Room} {index : Nat} {g : Int32 → Wd → Option (Int32 × Wd)} {a1 : Int32} {a2 : Int32} (hO : Ok K cc own nL rm)  (hl : Cond.methodLink own index yX7_entry ∈ gtb) (hcat : Nat.ble ((st.map fun v => v.category).sum) 8 = true) (hR : RoomOk rm cs 1 22 4) (d : decode cc pc = .ok (.invokevirtual index, 3)) (kk : ∀ (r : Int32) (σ : Wd), Cm K nL cs (g r σ) σ (pc + 3) lv (.int r :: st)) : Cm K nL cs (bd (f_X7_entry a1 a2 σ) g) σ pc lv (.int a2 :: .int a1 :: .ref (K.G.A 102) :: st) := r_cVi hO (c_X7_entry  a1 a2 σ) cal_X7_entry hl rfl (by decide) ent_X7 rfl rfl hcat hR d kk
/-! OrderSplitModel.bought -/
def f_X7_bought_87  (k28 : Int32 → Int32 → Int32 → Wd → Option (Int32 × Wd)) (x1 : Int32) (x2 : Int32) (x4 : Int32) (σ : Wd) : Option (Int32 × Wd) := (k28 x1 x2 (x4 + (1 : Int32)) σ)
def f_X7_bought_28   : Nat → Int32 → Int32 → Int32 → Wd → Option (Int32 × Wd)
  | 0 => fun _ _ _ _ => none
  | n + 1 => fun x1 x2 x4 σ => gd (inb (88 : Int32) 179) (if (σ.1 112 (ix (88 : Int32))) ≤ x4 then (bd (f_X7_good (0 : Int32) σ) fun r1 σ2 => some (r1, σ2)) else (gd (inb ((89 : Int32) + ((3 : Int32) * x4)) 179) (if (σ.1 112 (ix ((89 : Int32) + ((3 : Int32) * x4)))) = x1 then (gd (inb (((89 : Int32) + ((3 : Int32) * x4)) + (1 : Int32)) 179) (if (σ.1 112 (ix (((89 : Int32) + ((3 : Int32) * x4)) + (1 : Int32)))) = x2 then (gd (inb (((89 : Int32) + ((3 : Int32) * x4)) + (2 : Int32)) 179) (bd (f_X7_good (σ.1 112 (ix (((89 : Int32) + ((3 : Int32) * x4)) + (2 : Int32)))) σ) fun r3 σ4 => some (r3, σ4))) else (f_X7_bought_87 (f_X7_bought_28 n) x1 x2 x4 σ))) else (f_X7_bought_87 (f_X7_bought_28 n) x1 x2 x4 σ))))
def f_X7_bought (a1 : Int32) (a2 : Int32) (σ : Wd) : Option (Int32 × Wd) := nmW (wi σ 102 0 (0 : Int32)) fun σ1 => bd (f_X7_isVenue a1 σ1) fun r2 σ3 => bd (f_X7_refusesRun r2 σ3) fun r4 σ5 => if r4 ≤ 0 then (f_X7_bought_28 FU a1 a2 (0 : Int32) σ5) else (bd (f_X7_refused r4 σ5) fun r6 σ7 => some (r6, σ7))
set_option maxRecDepth 20000 in
set_option maxHeartbeats 1000000 in
theorem b_X7_bought_87 {K : Kt}  {k28 : Int32 → Int32 → Int32 → Wd → Option (Int32 × Wd)} (hO : Ok K cX7_bought RX7 6 rm_X7_bought) (hR : Rt K (some .int))   (hk28 : ∀ (x1 : Int32) (x2 : Int32) (x4 : Int32) (σ : Wd), Cm K 6 (0, 0) (k28 x1 x2 x4 σ) σ 28 [(0, .ref (K.G.A 102)), (1, .int x1), (2, .int x2), (4, .int x4)] []) (x1 : Int32) (x2 : Int32) (x4 : Int32) (σ : Wd)  : Cm K 6 (0, 0) (f_X7_bought_87 k28 x1 x2 x4 σ) σ 87 [(0, .ref (K.G.A 102)), (1, .int x1), (2, .int x2), (4, .int x4)] [] := by
  refine r_iinc hO rfl ci_1 rfl rfl dX7_bought_87 ?_
  refine r_goto (tgt := 28) hO dX7_bought_90 (by decide) ?_
  exact r_jmp (hk28 x1 x2 (x4 + (1 : Int32)) σ) (lsub_c rfl (lsub_c rfl (lsub_c rfl (lsub_c rfl lsub_n))))
set_option maxRecDepth 20000 in
set_option maxHeartbeats 1000000 in
theorem b_X7_bought_28 {K : Kt}   (hO : Ok K cX7_bought RX7 6 rm_X7_bought) (hR : Rt K (some .int))   : ∀ (n : Nat) (x1 : Int32) (x2 : Int32) (x4 : Int32) (σ : Wd) , Cm K 6 (0, 0) (f_X7_bought_28  n x1 x2 x4 σ) σ 28 [(0, .ref (K.G.A 102)), (1, .int x1), (2, .int x2), (4, .int x4)] [] := by
  intro n
  induction n with
  | zero => intro x1 x2 x4 σ ; exact r_none
  | succ n ih =>
    intro x1 x2 x4 σ 
    rw [f_X7_bought_28]
    refine r_iload hO (d := dX7_bought_28) rfl ?_
    refine r_aload_n (i := 0) hO rfl rfl dX7_bought_30 ?_
    refine gX7_44 hO dX7_bought_31 ?_
    refine r_bipush hO bi_88 dX7_bought_34 ?_
    refine r_iald hO s_112 dX7_bought_36 ?_
    refine r_icmp_ge (tgt := 93) hO dX7_bought_37 (by decide) ?_ ?_
    · refine r_aload_n (i := 0) hO rfl rfl dX7_bought_93 ?_
      refine r_iconst hO ci_0 dX7_bought_94 ?_
      refine k_X7_good hO a_592 rfl ⟨rfl, rfl, Nat.le_refl _, Nat.le_refl _⟩ dX7_bought_95 ?_
      intro r1 σ2
      exact r_iret hO hR dX7_bought_98
    · refine r_bipush hO bi_89 dX7_bought_40 ?_
      refine r_iconst hO ci_3 dX7_bought_42 ?_
      refine r_iload hO (d := dX7_bought_43) rfl ?_
      refine r_imul hO dX7_bought_45 ?_
      refine r_iadd hO dX7_bought_46 ?_
      refine r_istore hO rfl rfl dX7_bought_47 ?_
      refine r_aload_n (i := 0) hO rfl rfl dX7_bought_49 ?_
      refine gX7_44 hO dX7_bought_50 ?_
      refine r_iload hO (d := dX7_bought_53) rfl ?_
      refine r_iald hO s_112 dX7_bought_55 ?_
      refine r_iload_n (i := 1) hO rfl rfl dX7_bought_56 ?_
      refine r_icmp_ne (tgt := 87) hO dX7_bought_57 (by decide) ?_ ?_
      · refine r_aload_n (i := 0) hO rfl rfl dX7_bought_60 ?_
        refine gX7_44 hO dX7_bought_61 ?_
        refine r_iload hO (d := dX7_bought_64) rfl ?_
        refine r_iconst hO ci_1 dX7_bought_66 ?_
        refine r_iadd hO dX7_bought_67 ?_
        refine r_iald hO s_112 dX7_bought_68 ?_
        refine r_iload_n (i := 2) hO rfl rfl dX7_bought_69 ?_
        refine r_icmp_ne (tgt := 87) hO dX7_bought_70 (by decide) ?_ ?_
        · refine r_aload_n (i := 0) hO rfl rfl dX7_bought_73 ?_
          refine r_aload_n (i := 0) hO rfl rfl dX7_bought_74 ?_
          refine gX7_44 hO dX7_bought_75 ?_
          refine r_iload hO (d := dX7_bought_78) rfl ?_
          refine r_iconst hO ci_2 dX7_bought_80 ?_
          refine r_iadd hO dX7_bought_81 ?_
          refine r_iald hO s_112 dX7_bought_82 ?_
          refine k_X7_good hO a_592 rfl ⟨rfl, rfl, Nat.le_refl _, Nat.le_refl _⟩ dX7_bought_83 ?_
          intro r3 σ4
          exact r_iret hO hR dX7_bought_86
        · exact r_jmp (b_X7_bought_87 hO hR ih x1 x2 x4 σ) (lsub_c rfl (lsub_c rfl (lsub_c rfl (lsub_c rfl lsub_n))))
      · exact r_jmp (b_X7_bought_87 hO hR ih x1 x2 x4 σ) (lsub_c rfl (lsub_c rfl (lsub_c rfl (lsub_c rfl lsub_n))))
set_option maxRecDepth 20000 in
set_option maxHeartbeats 1000000 in
theorem b_X7_bought {K : Kt}  (hO : Ok K cX7_bought RX7 6 rm_X7_bought) (hR : Rt K (some .int))  (a1 : Int32) (a2 : Int32) (σ : Wd) : Cm K 6 (0, 0) (f_X7_bought a1 a2 σ) σ 0 [(0, .ref (K.G.A 102)), (1, .int a1), (2, .int a2)] [] := by
  refine r_aload_n (i := 0) hO rfl rfl dX7_bought_0 ?_
  refine r_iconst hO ci_0 dX7_bought_1 ?_
  refine pX7_70 hO dX7_bought_2 ?_
  refine r_nmW fun σ1 => ?_
  refine r_aload_n (i := 0) hO rfl rfl dX7_bought_5 ?_
  refine r_aload_n (i := 0) hO rfl rfl dX7_bought_6 ?_
  refine r_iload_n (i := 1) hO rfl rfl dX7_bought_7 ?_
  refine k_X7_isVenue hO a_641 rfl ⟨rfl, rfl, Nat.le_refl _, Nat.le_refl _⟩ dX7_bought_8 ?_
  intro r2 σ3
  refine k_X7_refusesRun hO a_815 rfl ⟨rfl, rfl, Nat.le_refl _, Nat.le_refl _⟩ dX7_bought_11 ?_
  intro r4 σ5
  refine r_istore_n (i := 3) hO rfl rfl rfl dX7_bought_14 ?_
  refine r_iload_n (i := 3) hO rfl rfl dX7_bought_15 ?_
  refine r_if_le (tgt := 25) hO dX7_bought_16 (by decide) ?_ ?_
  · refine r_iconst hO ci_0 dX7_bought_25 ?_
    refine r_istore hO rfl rfl dX7_bought_26 ?_
    exact r_jmp (b_X7_bought_28 hO hR FU a1 a2 (0 : Int32) σ5) (lsub_c rfl (lsub_c rfl (lsub_c rfl (lsub_c rfl lsub_n))))
  · refine r_aload_n (i := 0) hO rfl rfl dX7_bought_19 ?_
    refine r_iload_n (i := 3) hO rfl rfl dX7_bought_20 ?_
    refine k_X7_refused hO a_465 rfl ⟨rfl, rfl, Nat.le_refl _, Nat.le_refl _⟩ dX7_bought_21 ?_
    intro r6 σ7
    exact r_iret hO hR dX7_bought_24
theorem c_X7_bought {l : Launch} {G : Gh}   (a1 : Int32) (a2 : Int32) (σ : Wd) : Con l G yX7_bought cX7_bought 6 (some .int) 2 43 [.ref (G.A 102), .int a1, .int a2] σ (f_X7_bought a1 a2 σ) := Con.of (plainFor_of_name (by decide)) rfl (Nat.le_of_ble_eq_true rfl) (fun K hl hG hO hR => by subst hl; subst hG; exact b_X7_bought hO hR  a1 a2 σ)
theorem cal_X7_bought : CalV yX7_bought cX7_bought 6 (some .int) 2 := ⟨a_829, a_830, a_831, a_464, by decide, by decide, by decide +kernel⟩
theorem k_X7_bought {K : Kt} {nL : Nat} {cs : Nat × Nat} {σ : Wd} {pc : Nat} {lv : List (Nat × Value)} {st : List Value} {cc : ByteArray} {own : String} {rm : Room} {index : Nat} {g : Int32 → Wd → Option (Int32 × Wd)} {a1 : Int32} {a2 : Int32} (hO : Ok K cc own nL rm)  (hl : Cond.methodLink own index yX7_bought ∈ gtb) (hcat : Nat.ble ((st.map fun v => v.category).sum) 8 = true) (hR : RoomOk rm cs 2 43 6) (d : decode cc pc = .ok (.invokevirtual index, 3)) (kk : ∀ (r : Int32) (σ : Wd), Cm K nL cs (g r σ) σ (pc + 3) lv (.int r :: st)) : Cm K nL cs (bd (f_X7_bought a1 a2 σ) g) σ pc lv (.int a2 :: .int a1 :: .ref (K.G.A 102) :: st) := r_cVi hO (c_X7_bought  a1 a2 σ) cal_X7_bought hl rfl (by decide) ent_X7 rfl rfl hcat hR d kk
/-! OrderSplitModel.will -/
def f_X7_will_65   (x1 : Int32) (σ : Wd) : Option (Int32 × Wd) := bd (f_X7_isNow x1 σ) fun r1 σ2 => bd (f_X7_copies 114 179 112 179 σ2) fun _ σ3 => bd (f_X7_good r1 σ3) fun r4 σ5 => some (r4, σ5)
def f_X7_will_40   : Nat → Int32 → Int32 → Wd → Option (Int32 × Wd)
  | 0 => fun _ _ _ => none
  | n + 1 => fun x1 x3 σ => if (400 : Int32) ≤ x3 then (f_X7_will_65 x1 σ) else (bd (f_X7_isOver σ) fun r1 σ2 => if r1 = 0 then (bd (f_X7_tick σ2) fun r3 σ4 => (f_X7_will_40 n x1 (x3 + (1 : Int32)) σ4)) else (f_X7_will_65 x1 σ2))
def f_X7_will (a1 : Int32) (σ : Wd) : Option (Int32 × Wd) := nmW (wi σ 102 0 (0 : Int32)) fun σ1 => bd (f_X7_in a1 (0 : Int32) (6 : Int32) σ1) fun r2 σ3 => bd (f_X7_refusesRun r2 σ3) fun r4 σ5 => if r4 ≤ 0 then (bd (f_X7_copies 112 179 114 179 σ5) fun _ σ6 => (f_X7_will_40 FU a1 (0 : Int32) σ6)) else (bd (f_X7_refusedLow r4 σ5) fun r7 σ8 => some (r7, σ8))
set_option maxRecDepth 20000 in
set_option maxHeartbeats 1000000 in
theorem b_X7_will_65 {K : Kt}   (hO : Ok K cX7_will RX7 4 rm_X7_will) (hR : Rt K (some .int))   (x1 : Int32) (σ : Wd)  : Cm K 4 (0, 0) (f_X7_will_65  x1 σ) σ 65 [(0, .ref (K.G.A 102)), (1, .int x1)] [] := by
  refine r_aload_n (i := 0) hO rfl rfl dX7_will_65 ?_
  refine r_iload_n (i := 1) hO rfl rfl dX7_will_66 ?_
  refine k_X7_isNow hO a_816 rfl ⟨rfl, rfl, Nat.le_refl _, Nat.le_refl _⟩ dX7_will_67 ?_
  intro r1 σ2
  refine r_istore_n (i := 3) hO rfl rfl rfl dX7_will_70 ?_
  refine r_aload_n (i := 0) hO rfl rfl dX7_will_71 ?_
  refine gX7_50 hO dX7_will_72 ?_
  refine r_aload_n (i := 0) hO rfl rfl dX7_will_75 ?_
  refine gX7_44 hO dX7_will_76 ?_
  refine k_X7_copies hO s_114 s_112 a_832 rfl ⟨rfl, rfl, Nat.le_refl _, Nat.le_refl _⟩ dX7_will_79 ?_
  intro _ σ3
  refine r_aload_n (i := 0) hO rfl rfl dX7_will_82 ?_
  refine r_iload_n (i := 3) hO rfl rfl dX7_will_83 ?_
  refine k_X7_good hO a_592 rfl ⟨rfl, rfl, Nat.le_refl _, Nat.le_refl _⟩ dX7_will_84 ?_
  intro r4 σ5
  exact r_iret hO hR dX7_will_87
set_option maxRecDepth 20000 in
set_option maxHeartbeats 1000000 in
theorem b_X7_will_40 {K : Kt}   (hO : Ok K cX7_will RX7 4 rm_X7_will) (hR : Rt K (some .int))   : ∀ (n : Nat) (x1 : Int32) (x3 : Int32) (σ : Wd) , Cm K 4 (0, 0) (f_X7_will_40  n x1 x3 σ) σ 40 [(0, .ref (K.G.A 102)), (1, .int x1), (3, .int x3)] [] := by
  intro n
  induction n with
  | zero => intro x1 x3 σ ; exact r_none
  | succ n ih =>
    intro x1 x3 σ 
    refine r_iload_n (i := 3) hO rfl rfl dX7_will_40 ?_
    refine r_sipush hO si_400 dX7_will_41 ?_
    refine r_icmp_ge (tgt := 65) hO dX7_will_44 (by decide) ?_ ?_
    · exact r_jmp (b_X7_will_65 hO hR x1 σ) (lsub_c rfl (lsub_c rfl lsub_n))
    · refine r_aload_n (i := 0) hO rfl rfl dX7_will_47 ?_
      refine k_X7_isOver hO a_808 rfl ⟨rfl, rfl, Nat.le_refl _, Nat.le_refl _⟩ dX7_will_48 ?_
      intro r1 σ2
      refine r_if_ne (tgt := 65) hO dX7_will_51 (by decide) ?_ ?_
      · refine r_aload_n (i := 0) hO rfl rfl dX7_will_54 ?_
        refine k_X7_tick hO a_833 rfl ⟨rfl, rfl, Nat.le_refl _, Nat.le_refl _⟩ dX7_will_55 ?_
        intro r3 σ4
        refine r_pop hO rfl dX7_will_58 ?_
        refine r_iinc hO rfl ci_1 rfl rfl dX7_will_59 ?_
        refine r_goto (tgt := 40) hO dX7_will_62 (by decide) ?_
        exact r_jmp (ih x1 (x3 + (1 : Int32)) σ4) (lsub_c rfl (lsub_c rfl (lsub_c rfl lsub_n)))
      · exact r_jmp (b_X7_will_65 hO hR x1 σ2) (lsub_c rfl (lsub_c rfl lsub_n))
set_option maxRecDepth 20000 in
set_option maxHeartbeats 1000000 in
theorem b_X7_will {K : Kt}  (hO : Ok K cX7_will RX7 4 rm_X7_will) (hR : Rt K (some .int))  (a1 : Int32) (σ : Wd) : Cm K 4 (0, 0) (f_X7_will a1 σ) σ 0 [(0, .ref (K.G.A 102)), (1, .int a1)] [] := by
  refine r_aload_n (i := 0) hO rfl rfl dX7_will_0 ?_
  refine r_iconst hO ci_0 dX7_will_1 ?_
  refine pX7_70 hO dX7_will_2 ?_
  refine r_nmW fun σ1 => ?_
  refine r_aload_n (i := 0) hO rfl rfl dX7_will_5 ?_
  refine r_iload_n (i := 1) hO rfl rfl dX7_will_6 ?_
  refine r_iconst hO ci_0 dX7_will_7 ?_
  refine r_bipush hO bi_6 dX7_will_8 ?_
  refine k_X7_in hO a_483 rfl ⟨rfl, rfl, Nat.le_refl _, Nat.le_refl _⟩ dX7_will_10 ?_
  intro r2 σ3
  refine k_X7_refusesRun hO a_815 rfl ⟨rfl, rfl, Nat.le_refl _, Nat.le_refl _⟩ dX7_will_13 ?_
  intro r4 σ5
  refine r_istore_n (i := 2) hO rfl rfl rfl dX7_will_16 ?_
  refine r_iload_n (i := 2) hO rfl rfl dX7_will_17 ?_
  refine r_if_le (tgt := 27) hO dX7_will_18 (by decide) ?_ ?_
  · refine r_aload_n (i := 0) hO rfl rfl dX7_will_27 ?_
    refine gX7_44 hO dX7_will_28 ?_
    refine r_aload_n (i := 0) hO rfl rfl dX7_will_31 ?_
    refine gX7_50 hO dX7_will_32 ?_
    refine k_X7_copies hO s_112 s_114 a_832 rfl ⟨rfl, rfl, Nat.le_refl _, Nat.le_refl _⟩ dX7_will_35 ?_
    intro _ σ6
    refine r_iconst hO ci_0 dX7_will_38 ?_
    refine r_istore_n (i := 3) hO rfl rfl rfl dX7_will_39 ?_
    exact r_jmp (b_X7_will_40 hO hR FU a1 (0 : Int32) σ6) (lsub_c rfl (lsub_c rfl (lsub_c rfl lsub_n)))
  · refine r_aload_n (i := 0) hO rfl rfl dX7_will_21 ?_
    refine r_iload_n (i := 2) hO rfl rfl dX7_will_22 ?_
    refine k_X7_refusedLow hO a_642 rfl ⟨rfl, rfl, Nat.le_refl _, Nat.le_refl _⟩ dX7_will_23 ?_
    intro r7 σ8
    exact r_iret hO hR dX7_will_26
theorem c_X7_will {l : Launch} {G : Gh}   (a1 : Int32) (σ : Wd) : Con l G yX7_will cX7_will 4 (some .int) 9 208 [.ref (G.A 102), .int a1] σ (f_X7_will a1 σ) := Con.of (plainFor_of_name (by decide)) rfl (Nat.le_of_ble_eq_true rfl) (fun K hl hG hO hR => by subst hl; subst hG; exact b_X7_will hO hR  a1 σ)
theorem cal_X7_will : CalV yX7_will cX7_will 4 (some .int) 1 := ⟨a_834, a_835, a_836, a_464, by decide, by decide, by decide +kernel⟩
theorem k_X7_will {K : Kt} {nL : Nat} {cs : Nat × Nat} {σ : Wd} {pc : Nat} {lv : List (Nat × Value)} {st : List Value} {cc : ByteArray} {own : String} {rm : Room} {index : Nat} {g : Int32 → Wd → Option (Int32 × Wd)} {a1 : Int32} (hO : Ok K cc own nL rm)  (hl : Cond.methodLink own index yX7_will ∈ gtb) (hcat : Nat.ble ((st.map fun v => v.category).sum) 8 = true) (hR : RoomOk rm cs 9 208 4) (d : decode cc pc = .ok (.invokevirtual index, 3)) (kk : ∀ (r : Int32) (σ : Wd), Cm K nL cs (g r σ) σ (pc + 3) lv (.int r :: st)) : Cm K nL cs (bd (f_X7_will a1 σ) g) σ pc lv (.int a1 :: .ref (K.G.A 102) :: st) := r_cVi hO (c_X7_will  a1 σ) cal_X7_will hl rfl (by decide) ent_X7 rfl rfl hcat hR d kk
/-! OrderSplitModel.fee -/
def f_X7_fee (a1 : Int32) (a2 : Int32) (σ : Wd) : Option (Int32 × Wd) := nmW (wi σ 102 0 (0 : Int32)) fun σ1 => bd (f_X7_isVenue a1 σ1) fun r2 σ3 => if r2 = 0 then (bd (f_X7_refusedLow (1 : Int32) σ3) fun r4 σ5 => some (r4, σ5)) else (bd (f_X7_in a2 (-9 : Int32) (9 : Int32) σ3) fun r6 σ7 => if r6 = 0 then (bd (f_X7_refusedLow (2 : Int32) σ7) fun r8 σ9 => some (r8, σ9)) else (gd (inb (36 : Int32) 179) (if (σ7.1 112 (ix (36 : Int32))) = (1 : Int32) then (bd (f_X7_refusedLow (5 : Int32) σ7) fun r10 σ11 => some (r10, σ11)) else (gd (inb ((30 : Int32) + a1) 179) (gd (inb ((30 : Int32) + a1) 179) (nmW (wi σ7 112 (ix ((30 : Int32) + a1)) a2) fun σ12 => bd (f_X7_good (σ7.1 112 (ix ((30 : Int32) + a1))) σ12) fun r13 σ14 => some (r13, σ14)))))))
set_option maxRecDepth 20000 in
set_option maxHeartbeats 1000000 in
theorem b_X7_fee {K : Kt}  (hO : Ok K cX7_fee RX7 4 rm_X7_fee) (hR : Rt K (some .int))  (a1 : Int32) (a2 : Int32) (σ : Wd) : Cm K 4 (0, 0) (f_X7_fee a1 a2 σ) σ 0 [(0, .ref (K.G.A 102)), (1, .int a1), (2, .int a2)] [] := by
  refine r_aload_n (i := 0) hO rfl rfl dX7_fee_0 ?_
  refine r_iconst hO ci_0 dX7_fee_1 ?_
  refine pX7_70 hO dX7_fee_2 ?_
  refine r_nmW fun σ1 => ?_
  refine r_aload_n (i := 0) hO rfl rfl dX7_fee_5 ?_
  refine r_iload_n (i := 1) hO rfl rfl dX7_fee_6 ?_
  refine k_X7_isVenue hO a_641 rfl ⟨rfl, rfl, Nat.le_refl _, Nat.le_refl _⟩ dX7_fee_7 ?_
  intro r2 σ3
  refine r_if_ne (tgt := 19) hO dX7_fee_10 (by decide) ?_ ?_
  · refine r_aload_n (i := 0) hO rfl rfl dX7_fee_13 ?_
    refine r_iconst hO ci_1 dX7_fee_14 ?_
    refine k_X7_refusedLow hO a_642 rfl ⟨rfl, rfl, Nat.le_refl _, Nat.le_refl _⟩ dX7_fee_15 ?_
    intro r4 σ5
    exact r_iret hO hR dX7_fee_18
  · refine r_iload_n (i := 2) hO rfl rfl dX7_fee_19 ?_
    refine r_bipush hO bi_m9 dX7_fee_20 ?_
    refine r_bipush hO bi_9 dX7_fee_22 ?_
    refine k_X7_in hO a_483 rfl ⟨rfl, rfl, Nat.le_refl _, Nat.le_refl _⟩ dX7_fee_24 ?_
    intro r6 σ7
    refine r_if_ne (tgt := 36) hO dX7_fee_27 (by decide) ?_ ?_
    · refine r_aload_n (i := 0) hO rfl rfl dX7_fee_30 ?_
      refine r_iconst hO ci_2 dX7_fee_31 ?_
      refine k_X7_refusedLow hO a_642 rfl ⟨rfl, rfl, Nat.le_refl _, Nat.le_refl _⟩ dX7_fee_32 ?_
      intro r8 σ9
      exact r_iret hO hR dX7_fee_35
    · refine r_aload_n (i := 0) hO rfl rfl dX7_fee_36 ?_
      refine gX7_44 hO dX7_fee_37 ?_
      refine r_bipush hO bi_36 dX7_fee_40 ?_
      refine r_iald hO s_112 dX7_fee_42 ?_
      refine r_iconst hO ci_1 dX7_fee_43 ?_
      refine r_icmp_ne (tgt := 53) hO dX7_fee_44 (by decide) ?_ ?_
      · refine r_aload_n (i := 0) hO rfl rfl dX7_fee_47 ?_
        refine r_iconst hO ci_5 dX7_fee_48 ?_
        refine k_X7_refusedLow hO a_642 rfl ⟨rfl, rfl, Nat.le_refl _, Nat.le_refl _⟩ dX7_fee_49 ?_
        intro r10 σ11
        exact r_iret hO hR dX7_fee_52
      · refine r_aload_n (i := 0) hO rfl rfl dX7_fee_53 ?_
        refine gX7_44 hO dX7_fee_54 ?_
        refine r_bipush hO bi_30 dX7_fee_57 ?_
        refine r_iload_n (i := 1) hO rfl rfl dX7_fee_59 ?_
        refine r_iadd hO dX7_fee_60 ?_
        refine r_iald hO s_112 dX7_fee_61 ?_
        refine r_istore_n (i := 3) hO rfl rfl rfl dX7_fee_62 ?_
        refine r_aload_n (i := 0) hO rfl rfl dX7_fee_63 ?_
        refine gX7_44 hO dX7_fee_64 ?_
        refine r_bipush hO bi_30 dX7_fee_67 ?_
        refine r_iload_n (i := 1) hO rfl rfl dX7_fee_69 ?_
        refine r_iadd hO dX7_fee_70 ?_
        refine r_iload_n (i := 2) hO rfl rfl dX7_fee_71 ?_
        refine r_iast hO s_112 dX7_fee_72 ?_
        refine r_nmW fun σ12 => ?_
        refine r_aload_n (i := 0) hO rfl rfl dX7_fee_73 ?_
        refine r_iload_n (i := 3) hO rfl rfl dX7_fee_74 ?_
        refine k_X7_good hO a_592 rfl ⟨rfl, rfl, Nat.le_refl _, Nat.le_refl _⟩ dX7_fee_75 ?_
        intro r13 σ14
        exact r_iret hO hR dX7_fee_78
theorem c_X7_fee {l : Launch} {G : Gh}   (a1 : Int32) (a2 : Int32) (σ : Wd) : Con l G yX7_fee cX7_fee 4 (some .int) 2 43 [.ref (G.A 102), .int a1, .int a2] σ (f_X7_fee a1 a2 σ) := Con.of (plainFor_of_name (by decide)) rfl (Nat.le_of_ble_eq_true rfl) (fun K hl hG hO hR => by subst hl; subst hG; exact b_X7_fee hO hR  a1 a2 σ)
theorem cal_X7_fee : CalV yX7_fee cX7_fee 4 (some .int) 2 := ⟨a_837, a_838, a_839, a_464, by decide, by decide, by decide +kernel⟩
theorem k_X7_fee {K : Kt} {nL : Nat} {cs : Nat × Nat} {σ : Wd} {pc : Nat} {lv : List (Nat × Value)} {st : List Value} {cc : ByteArray} {own : String} {rm : Room} {index : Nat} {g : Int32 → Wd → Option (Int32 × Wd)} {a1 : Int32} {a2 : Int32} (hO : Ok K cc own nL rm)  (hl : Cond.methodLink own index yX7_fee ∈ gtb) (hcat : Nat.ble ((st.map fun v => v.category).sum) 8 = true) (hR : RoomOk rm cs 2 43 4) (d : decode cc pc = .ok (.invokevirtual index, 3)) (kk : ∀ (r : Int32) (σ : Wd), Cm K nL cs (g r σ) σ (pc + 3) lv (.int r :: st)) : Cm K nL cs (bd (f_X7_fee a1 a2 σ) g) σ pc lv (.int a2 :: .int a1 :: .ref (K.G.A 102) :: st) := r_cVi hO (c_X7_fee  a1 a2 σ) cal_X7_fee hl rfl (by decide) ent_X7 rfl rfl hcat hR d kk
/-! OrderSplitModel.resize -/
def f_X7_resize_28    (σ : Wd) : Option (Int32 × Wd) := bd (f_X7_refused (1 : Int32) σ) fun r1 σ2 => some (r1, σ2)
def f_X7_resize (a1 : Int32) (a2 : Int32) (a3 : Int32) (σ : Wd) : Option (Int32 × Wd) := nmW (wi σ 102 0 (0 : Int32)) fun σ1 => bd (f_X7_isVenue a1 σ1) fun r2 σ3 => if r2 = 0 then (f_X7_resize_28 σ3) else (bd (f_X7_levels a1 σ3) fun r4 σ5 => bd (f_X7_in a2 (0 : Int32) (r4 - (1 : Int32)) σ5) fun r6 σ7 => if r6 = 0 then (f_X7_resize_28 σ7) else (bd (f_X7_in a3 (0 : Int32) (99 : Int32) σ7) fun r8 σ9 => if r8 = 0 then (bd (f_X7_refused (2 : Int32) σ9) fun r10 σ11 => some (r10, σ11)) else (bd (f_X7_sizeOf a1 a2 σ9) fun r12 σ13 => gd (inb (((0 : Int32) + ((6 : Int32) * a1)) + a2) 179) (nmW (wi σ13 112 (ix (((0 : Int32) + ((6 : Int32) * a1)) + a2)) a3) fun σ14 => bd (f_X7_good r12 σ14) fun r15 σ16 => some (r15, σ16)))))
set_option maxRecDepth 20000 in
set_option maxHeartbeats 1000000 in
theorem b_X7_resize_28 {K : Kt}   (hO : Ok K cX7_resize RX7 5 rm_X7_resize) (hR : Rt K (some .int))    (σ : Wd)  : Cm K 5 (0, 0) (f_X7_resize_28   σ) σ 28 [(0, .ref (K.G.A 102))] [] := by
  refine r_aload_n (i := 0) hO rfl rfl dX7_resize_28 ?_
  refine r_iconst hO ci_1 dX7_resize_29 ?_
  refine k_X7_refused hO a_465 rfl ⟨rfl, rfl, Nat.le_refl _, Nat.le_refl _⟩ dX7_resize_30 ?_
  intro r1 σ2
  exact r_iret hO hR dX7_resize_33
set_option maxRecDepth 20000 in
set_option maxHeartbeats 1000000 in
theorem b_X7_resize {K : Kt}  (hO : Ok K cX7_resize RX7 5 rm_X7_resize) (hR : Rt K (some .int))  (a1 : Int32) (a2 : Int32) (a3 : Int32) (σ : Wd) : Cm K 5 (0, 0) (f_X7_resize a1 a2 a3 σ) σ 0 [(0, .ref (K.G.A 102)), (1, .int a1), (2, .int a2), (3, .int a3)] [] := by
  refine r_aload_n (i := 0) hO rfl rfl dX7_resize_0 ?_
  refine r_iconst hO ci_0 dX7_resize_1 ?_
  refine pX7_70 hO dX7_resize_2 ?_
  refine r_nmW fun σ1 => ?_
  refine r_aload_n (i := 0) hO rfl rfl dX7_resize_5 ?_
  refine r_iload_n (i := 1) hO rfl rfl dX7_resize_6 ?_
  refine k_X7_isVenue hO a_641 rfl ⟨rfl, rfl, Nat.le_refl _, Nat.le_refl _⟩ dX7_resize_7 ?_
  intro r2 σ3
  refine r_if_eq (tgt := 28) hO dX7_resize_10 (by decide) ?_ ?_
  · exact r_jmp (b_X7_resize_28 hO hR σ3) (lsub_c rfl lsub_n)
  · refine r_iload_n (i := 2) hO rfl rfl dX7_resize_13 ?_
    refine r_iconst hO ci_0 dX7_resize_14 ?_
    refine r_aload_n (i := 0) hO rfl rfl dX7_resize_15 ?_
    refine r_iload_n (i := 1) hO rfl rfl dX7_resize_16 ?_
    refine k_X7_levels hO a_585 rfl ⟨rfl, rfl, Nat.le_refl _, Nat.le_refl _⟩ dX7_resize_17 ?_
    intro r4 σ5
    refine r_iconst hO ci_1 dX7_resize_20 ?_
    refine r_isub hO dX7_resize_21 ?_
    refine k_X7_in hO a_483 rfl ⟨rfl, rfl, Nat.le_refl _, Nat.le_refl _⟩ dX7_resize_22 ?_
    intro r6 σ7
    refine r_if_ne (tgt := 34) hO dX7_resize_25 (by decide) ?_ ?_
    · exact r_jmp (b_X7_resize_28 hO hR σ7) (lsub_c rfl lsub_n)
    · refine r_iload_n (i := 3) hO rfl rfl dX7_resize_34 ?_
      refine r_iconst hO ci_0 dX7_resize_35 ?_
      refine r_bipush hO bi_99 dX7_resize_36 ?_
      refine k_X7_in hO a_483 rfl ⟨rfl, rfl, Nat.le_refl _, Nat.le_refl _⟩ dX7_resize_38 ?_
      intro r8 σ9
      refine r_if_ne (tgt := 50) hO dX7_resize_41 (by decide) ?_ ?_
      · refine r_aload_n (i := 0) hO rfl rfl dX7_resize_44 ?_
        refine r_iconst hO ci_2 dX7_resize_45 ?_
        refine k_X7_refused hO a_465 rfl ⟨rfl, rfl, Nat.le_refl _, Nat.le_refl _⟩ dX7_resize_46 ?_
        intro r10 σ11
        exact r_iret hO hR dX7_resize_49
      · refine r_aload_n (i := 0) hO rfl rfl dX7_resize_50 ?_
        refine r_iload_n (i := 1) hO rfl rfl dX7_resize_51 ?_
        refine r_iload_n (i := 2) hO rfl rfl dX7_resize_52 ?_
        refine k_X7_sizeOf hO a_618 rfl ⟨rfl, rfl, Nat.le_refl _, Nat.le_refl _⟩ dX7_resize_53 ?_
        intro r12 σ13
        refine r_istore hO rfl rfl dX7_resize_56 ?_
        refine r_aload_n (i := 0) hO rfl rfl dX7_resize_58 ?_
        refine gX7_44 hO dX7_resize_59 ?_
        refine r_iconst hO ci_0 dX7_resize_62 ?_
        refine r_bipush hO bi_6 dX7_resize_63 ?_
        refine r_iload_n (i := 1) hO rfl rfl dX7_resize_65 ?_
        refine r_imul hO dX7_resize_66 ?_
        refine r_iadd hO dX7_resize_67 ?_
        refine r_iload_n (i := 2) hO rfl rfl dX7_resize_68 ?_
        refine r_iadd hO dX7_resize_69 ?_
        refine r_iload_n (i := 3) hO rfl rfl dX7_resize_70 ?_
        refine r_iast hO s_112 dX7_resize_71 ?_
        refine r_nmW fun σ14 => ?_
        refine r_aload_n (i := 0) hO rfl rfl dX7_resize_72 ?_
        refine r_iload hO (d := dX7_resize_73) rfl ?_
        refine k_X7_good hO a_592 rfl ⟨rfl, rfl, Nat.le_refl _, Nat.le_refl _⟩ dX7_resize_75 ?_
        intro r15 σ16
        exact r_iret hO hR dX7_resize_78
theorem c_X7_resize {l : Launch} {G : Gh}   (a1 : Int32) (a2 : Int32) (a3 : Int32) (σ : Wd) : Con l G yX7_resize cX7_resize 5 (some .int) 2 43 [.ref (G.A 102), .int a1, .int a2, .int a3] σ (f_X7_resize a1 a2 a3 σ) := Con.of (plainFor_of_name (by decide)) rfl (Nat.le_of_ble_eq_true rfl) (fun K hl hG hO hR => by subst hl; subst hG; exact b_X7_resize hO hR  a1 a2 a3 σ)
theorem cal_X7_resize : CalV yX7_resize cX7_resize 5 (some .int) 3 := ⟨a_840, a_841, a_842, a_464, by decide, by decide, by decide +kernel⟩
theorem k_X7_resize {K : Kt} {nL : Nat} {cs : Nat × Nat} {σ : Wd} {pc : Nat} {lv : List (Nat × Value)} {st : List Value} {cc : ByteArray} {own : String} {rm : Room} {index : Nat} {g : Int32 → Wd → Option (Int32 × Wd)} {a1 : Int32} {a2 : Int32} {a3 : Int32} (hO : Ok K cc own nL rm)  (hl : Cond.methodLink own index yX7_resize ∈ gtb) (hcat : Nat.ble ((st.map fun v => v.category).sum) 8 = true) (hR : RoomOk rm cs 2 43 5) (d : decode cc pc = .ok (.invokevirtual index, 3)) (kk : ∀ (r : Int32) (σ : Wd), Cm K nL cs (g r σ) σ (pc + 3) lv (.int r :: st)) : Cm K nL cs (bd (f_X7_resize a1 a2 a3 σ) g) σ pc lv (.int a3 :: .int a2 :: .int a1 :: .ref (K.G.A 102) :: st) := r_cVi hO (c_X7_resize  a1 a2 a3 σ) cal_X7_resize hl rfl (by decide) ent_X7 rfl rfl hcat hR d kk
/-! OrderSplitModel.order -/
def f_X7_order (a1 : Int32) (σ : Wd) : Option (Int32 × Wd) := nmW (wi σ 102 0 (0 : Int32)) fun σ1 => if (σ1.1 102 21) = 0 then (bd (f_X7_refused (1 : Int32) σ1) fun r2 σ3 => some (r2, σ3)) else (bd (f_X7_in a1 (1 : Int32) (120 : Int32) σ1) fun r4 σ5 => if r4 = 0 then (bd (f_X7_refused (2 : Int32) σ5) fun r6 σ7 => some (r6, σ7)) else (gd (inb (36 : Int32) 179) (if (σ5.1 112 (ix (36 : Int32))) = (1 : Int32) then (bd (f_X7_refused (5 : Int32) σ5) fun r8 σ9 => some (r8, σ9)) else (gd (inb (35 : Int32) 179) (gd (inb (35 : Int32) 179) (nmW (wi σ5 112 (ix (35 : Int32)) a1) fun σ10 => bd (f_X7_good (σ5.1 112 (ix (35 : Int32))) σ10) fun r11 σ12 => some (r11, σ12)))))))
set_option maxRecDepth 20000 in
set_option maxHeartbeats 1000000 in
theorem b_X7_order {K : Kt}  (hO : Ok K cX7_order RX7 3 rm_X7_order) (hR : Rt K (some .int))  (a1 : Int32) (σ : Wd) : Cm K 3 (0, 0) (f_X7_order a1 σ) σ 0 [(0, .ref (K.G.A 102)), (1, .int a1)] [] := by
  refine r_aload_n (i := 0) hO rfl rfl dX7_order_0 ?_
  refine r_iconst hO ci_0 dX7_order_1 ?_
  refine pX7_70 hO dX7_order_2 ?_
  refine r_nmW fun σ1 => ?_
  refine r_aload_n (i := 0) hO rfl rfl dX7_order_5 ?_
  refine gX7_241 hO dX7_order_6 ?_
  refine r_if_ne (tgt := 18) hO dX7_order_9 (by decide) ?_ ?_
  · refine r_aload_n (i := 0) hO rfl rfl dX7_order_12 ?_
    refine r_iconst hO ci_1 dX7_order_13 ?_
    refine k_X7_refused hO a_465 rfl ⟨rfl, rfl, Nat.le_refl _, Nat.le_refl _⟩ dX7_order_14 ?_
    intro r2 σ3
    exact r_iret hO hR dX7_order_17
  · refine r_iload_n (i := 1) hO rfl rfl dX7_order_18 ?_
    refine r_iconst hO ci_1 dX7_order_19 ?_
    refine r_bipush hO bi_120 dX7_order_20 ?_
    refine k_X7_in hO a_483 rfl ⟨rfl, rfl, Nat.le_refl _, Nat.le_refl _⟩ dX7_order_22 ?_
    intro r4 σ5
    refine r_if_ne (tgt := 34) hO dX7_order_25 (by decide) ?_ ?_
    · refine r_aload_n (i := 0) hO rfl rfl dX7_order_28 ?_
      refine r_iconst hO ci_2 dX7_order_29 ?_
      refine k_X7_refused hO a_465 rfl ⟨rfl, rfl, Nat.le_refl _, Nat.le_refl _⟩ dX7_order_30 ?_
      intro r6 σ7
      exact r_iret hO hR dX7_order_33
    · refine r_aload_n (i := 0) hO rfl rfl dX7_order_34 ?_
      refine gX7_44 hO dX7_order_35 ?_
      refine r_bipush hO bi_36 dX7_order_38 ?_
      refine r_iald hO s_112 dX7_order_40 ?_
      refine r_iconst hO ci_1 dX7_order_41 ?_
      refine r_icmp_ne (tgt := 51) hO dX7_order_42 (by decide) ?_ ?_
      · refine r_aload_n (i := 0) hO rfl rfl dX7_order_45 ?_
        refine r_iconst hO ci_5 dX7_order_46 ?_
        refine k_X7_refused hO a_465 rfl ⟨rfl, rfl, Nat.le_refl _, Nat.le_refl _⟩ dX7_order_47 ?_
        intro r8 σ9
        exact r_iret hO hR dX7_order_50
      · refine r_aload_n (i := 0) hO rfl rfl dX7_order_51 ?_
        refine gX7_44 hO dX7_order_52 ?_
        refine r_bipush hO bi_35 dX7_order_55 ?_
        refine r_iald hO s_112 dX7_order_57 ?_
        refine r_istore_n (i := 2) hO rfl rfl rfl dX7_order_58 ?_
        refine r_aload_n (i := 0) hO rfl rfl dX7_order_59 ?_
        refine gX7_44 hO dX7_order_60 ?_
        refine r_bipush hO bi_35 dX7_order_63 ?_
        refine r_iload_n (i := 1) hO rfl rfl dX7_order_65 ?_
        refine r_iast hO s_112 dX7_order_66 ?_
        refine r_nmW fun σ10 => ?_
        refine r_aload_n (i := 0) hO rfl rfl dX7_order_67 ?_
        refine r_iload_n (i := 2) hO rfl rfl dX7_order_68 ?_
        refine k_X7_good hO a_592 rfl ⟨rfl, rfl, Nat.le_refl _, Nat.le_refl _⟩ dX7_order_69 ?_
        intro r11 σ12
        exact r_iret hO hR dX7_order_72
theorem c_X7_order {l : Launch} {G : Gh}   (a1 : Int32) (σ : Wd) : Con l G yX7_order cX7_order 3 (some .int) 1 22 [.ref (G.A 102), .int a1] σ (f_X7_order a1 σ) := Con.of (plainFor_of_name (by decide)) rfl (Nat.le_of_ble_eq_true rfl) (fun K hl hG hO hR => by subst hl; subst hG; exact b_X7_order hO hR  a1 σ)
theorem cal_X7_order : CalV yX7_order cX7_order 3 (some .int) 1 := ⟨a_843, a_844, a_845, a_464, by decide, by decide, by decide +kernel⟩
theorem k_X7_order {K : Kt} {nL : Nat} {cs : Nat × Nat} {σ : Wd} {pc : Nat} {lv : List (Nat × Value)} {st : List Value} {cc : ByteArray} {own : String} {rm : Room} {index : Nat} {g : Int32 → Wd → Option (Int32 × Wd)} {a1 : Int32} (hO : Ok K cc own nL rm)  (hl : Cond.methodLink own index yX7_order ∈ gtb) (hcat : Nat.ble ((st.map fun v => v.category).sum) 8 = true) (hR : RoomOk rm cs 1 22 3) (d : decode cc pc = .ok (.invokevirtual index, 3)) (kk : ∀ (r : Int32) (σ : Wd), Cm K nL cs (g r σ) σ (pc + 3) lv (.int r :: st)) : Cm K nL cs (bd (f_X7_order a1 σ) g) σ pc lv (.int a1 :: .ref (K.G.A 102) :: st) := r_cVi hO (c_X7_order  a1 σ) cal_X7_order hl rfl (by decide) ent_X7 rfl rfl hcat hR d kk
/-! OrderSplitModel.begin -/
def f_X7_begin  (σ : Wd) : Option (Int32 × Wd) := nmW (wi σ 102 0 (0 : Int32)) fun σ1 => if (σ1.1 102 21) = 0 then (bd (f_X7_refused (1 : Int32) σ1) fun r2 σ3 => some (r2, σ3)) else (gd (inb (36 : Int32) 179) (if (σ1.1 112 (ix (36 : Int32))) = (1 : Int32) then (bd (f_X7_refused (5 : Int32) σ1) fun r4 σ5 => some (r4, σ5)) else (gd (inb (36 : Int32) 179) (nmW (wi σ1 112 (ix (36 : Int32)) (1 : Int32)) fun σ6 => gd (inb (35 : Int32) 179) (gd (inb (38 : Int32) 179) (nmW (wi σ6 112 (ix (38 : Int32)) (σ6.1 112 (ix (35 : Int32)))) fun σ7 => bd (f_X7_beginsRound σ7) fun r8 σ9 => bd (f_X7_good r8 σ9) fun r10 σ11 => some (r10, σ11)))))))
set_option maxRecDepth 20000 in
set_option maxHeartbeats 1000000 in
theorem b_X7_begin {K : Kt}  (hO : Ok K cX7_begin RX7 1 rm_X7_begin) (hR : Rt K (some .int))   (σ : Wd) : Cm K 1 (0, 0) (f_X7_begin  σ) σ 0 [(0, .ref (K.G.A 102))] [] := by
  refine r_aload_n (i := 0) hO rfl rfl dX7_begin_0 ?_
  refine r_iconst hO ci_0 dX7_begin_1 ?_
  refine pX7_70 hO dX7_begin_2 ?_
  refine r_nmW fun σ1 => ?_
  refine r_aload_n (i := 0) hO rfl rfl dX7_begin_5 ?_
  refine gX7_241 hO dX7_begin_6 ?_
  refine r_if_ne (tgt := 18) hO dX7_begin_9 (by decide) ?_ ?_
  · refine r_aload_n (i := 0) hO rfl rfl dX7_begin_12 ?_
    refine r_iconst hO ci_1 dX7_begin_13 ?_
    refine k_X7_refused hO a_465 rfl ⟨rfl, rfl, Nat.le_refl _, Nat.le_refl _⟩ dX7_begin_14 ?_
    intro r2 σ3
    exact r_iret hO hR dX7_begin_17
  · refine r_aload_n (i := 0) hO rfl rfl dX7_begin_18 ?_
    refine gX7_44 hO dX7_begin_19 ?_
    refine r_bipush hO bi_36 dX7_begin_22 ?_
    refine r_iald hO s_112 dX7_begin_24 ?_
    refine r_iconst hO ci_1 dX7_begin_25 ?_
    refine r_icmp_ne (tgt := 35) hO dX7_begin_26 (by decide) ?_ ?_
    · refine r_aload_n (i := 0) hO rfl rfl dX7_begin_29 ?_
      refine r_iconst hO ci_5 dX7_begin_30 ?_
      refine k_X7_refused hO a_465 rfl ⟨rfl, rfl, Nat.le_refl _, Nat.le_refl _⟩ dX7_begin_31 ?_
      intro r4 σ5
      exact r_iret hO hR dX7_begin_34
    · refine r_aload_n (i := 0) hO rfl rfl dX7_begin_35 ?_
      refine gX7_44 hO dX7_begin_36 ?_
      refine r_bipush hO bi_36 dX7_begin_39 ?_
      refine r_iconst hO ci_1 dX7_begin_41 ?_
      refine r_iast hO s_112 dX7_begin_42 ?_
      refine r_nmW fun σ6 => ?_
      refine r_aload_n (i := 0) hO rfl rfl dX7_begin_43 ?_
      refine gX7_44 hO dX7_begin_44 ?_
      refine r_bipush hO bi_38 dX7_begin_47 ?_
      refine r_aload_n (i := 0) hO rfl rfl dX7_begin_49 ?_
      refine gX7_44 hO dX7_begin_50 ?_
      refine r_bipush hO bi_35 dX7_begin_53 ?_
      refine r_iald hO s_112 dX7_begin_55 ?_
      refine r_iast hO s_112 dX7_begin_56 ?_
      refine r_nmW fun σ7 => ?_
      refine r_aload_n (i := 0) hO rfl rfl dX7_begin_57 ?_
      refine r_aload_n (i := 0) hO rfl rfl dX7_begin_58 ?_
      refine k_X7_beginsRound hO a_796 rfl ⟨rfl, rfl, Nat.le_refl _, Nat.le_refl _⟩ dX7_begin_59 ?_
      intro r8 σ9
      refine k_X7_good hO a_592 rfl ⟨rfl, rfl, Nat.le_refl _, Nat.le_refl _⟩ dX7_begin_62 ?_
      intro r10 σ11
      exact r_iret hO hR dX7_begin_65
theorem c_X7_begin {l : Launch} {G : Gh}    (σ : Wd) : Con l G yX7_begin cX7_begin 1 (some .int) 8 186 [.ref (G.A 102)] σ (f_X7_begin  σ) := Con.of (plainFor_of_name (by decide)) rfl (Nat.le_of_ble_eq_true rfl) (fun K hl hG hO hR => by subst hl; subst hG; exact b_X7_begin hO hR   σ)
theorem cal_X7_begin : CalV yX7_begin cX7_begin 1 (some .int) 0 := ⟨a_846, a_847, a_848, a_464, by decide, by decide, by decide +kernel⟩
theorem k_X7_begin {K : Kt} {nL : Nat} {cs : Nat × Nat} {σ : Wd} {pc : Nat} {lv : List (Nat × Value)} {st : List Value} {cc : ByteArray} {own : String} {rm : Room} {index : Nat} {g : Int32 → Wd → Option (Int32 × Wd)}  (hO : Ok K cc own nL rm)  (hl : Cond.methodLink own index yX7_begin ∈ gtb) (hcat : Nat.ble ((st.map fun v => v.category).sum) 8 = true) (hR : RoomOk rm cs 8 186 1) (d : decode cc pc = .ok (.invokevirtual index, 3)) (kk : ∀ (r : Int32) (σ : Wd), Cm K nL cs (g r σ) σ (pc + 3) lv (.int r :: st)) : Cm K nL cs (bd (f_X7_begin  σ) g) σ pc lv (.ref (K.G.A 102) :: st) := r_cVi hO (c_X7_begin   σ) cal_X7_begin hl rfl (by decide) ent_X7 rfl rfl hcat hR d kk
/-! OrderSplitModel.ticks -/
def f_X7_ticks_55   : Nat → Int32 → Int32 → Int32 → Wd → Option (Int32 × Wd)
  | 0 => fun _ _ _ _ => none
  | n + 1 => fun x1 x2 x3 σ => if x1 ≤ x3 then (bd (f_X7_good x2 σ) fun r1 σ2 => some (r1, σ2)) else (bd (f_X7_tick σ) fun r3 σ4 => (f_X7_ticks_55 n x1 (x2 + r3) (x3 + (1 : Int32)) σ4))
def f_X7_ticks (a1 : Int32) (σ : Wd) : Option (Int32 × Wd) := nmW (wi σ 102 0 (0 : Int32)) fun σ1 => if (σ1.1 102 21) = 0 then (bd (f_X7_refused (1 : Int32) σ1) fun r2 σ3 => some (r2, σ3)) else (bd (f_X7_in a1 (1 : Int32) (200 : Int32) σ1) fun r4 σ5 => if r4 = 0 then (bd (f_X7_refused (2 : Int32) σ5) fun r6 σ7 => some (r6, σ7)) else (gd (inb (36 : Int32) 179) (if (σ5.1 112 (ix (36 : Int32))) = 0 then (bd (f_X7_refused (5 : Int32) σ5) fun r8 σ9 => some (r8, σ9)) else (f_X7_ticks_55 FU a1 (0 : Int32) (0 : Int32) σ5))))
set_option maxRecDepth 20000 in
set_option maxHeartbeats 1000000 in
theorem b_X7_ticks_55 {K : Kt}   (hO : Ok K cX7_ticks RX7 4 rm_X7_ticks) (hR : Rt K (some .int))   : ∀ (n : Nat) (x1 : Int32) (x2 : Int32) (x3 : Int32) (σ : Wd) , Cm K 4 (0, 0) (f_X7_ticks_55  n x1 x2 x3 σ) σ 55 [(0, .ref (K.G.A 102)), (1, .int x1), (2, .int x2), (3, .int x3)] [] := by
  intro n
  induction n with
  | zero => intro x1 x2 x3 σ ; exact r_none
  | succ n ih =>
    intro x1 x2 x3 σ 
    refine r_iload_n (i := 3) hO rfl rfl dX7_ticks_55 ?_
    refine r_iload_n (i := 1) hO rfl rfl dX7_ticks_56 ?_
    refine r_icmp_ge (tgt := 73) hO dX7_ticks_57 (by decide) ?_ ?_
    · refine r_aload_n (i := 0) hO rfl rfl dX7_ticks_73 ?_
      refine r_iload_n (i := 2) hO rfl rfl dX7_ticks_74 ?_
      refine k_X7_good hO a_592 rfl ⟨rfl, rfl, Nat.le_refl _, Nat.le_refl _⟩ dX7_ticks_75 ?_
      intro r1 σ2
      exact r_iret hO hR dX7_ticks_78
    · refine r_iload_n (i := 2) hO rfl rfl dX7_ticks_60 ?_
      refine r_aload_n (i := 0) hO rfl rfl dX7_ticks_61 ?_
      refine k_X7_tick hO a_833 rfl ⟨rfl, rfl, Nat.le_refl _, Nat.le_refl _⟩ dX7_ticks_62 ?_
      intro r3 σ4
      refine r_iadd hO dX7_ticks_65 ?_
      refine r_istore_n (i := 2) hO rfl rfl rfl dX7_ticks_66 ?_
      refine r_iinc hO rfl ci_1 rfl rfl dX7_ticks_67 ?_
      refine r_goto (tgt := 55) hO dX7_ticks_70 (by decide) ?_
      exact r_jmp (ih x1 (x2 + r3) (x3 + (1 : Int32)) σ4) (lsub_c rfl (lsub_c rfl (lsub_c rfl (lsub_c rfl lsub_n))))
set_option maxRecDepth 20000 in
set_option maxHeartbeats 1000000 in
theorem b_X7_ticks {K : Kt}  (hO : Ok K cX7_ticks RX7 4 rm_X7_ticks) (hR : Rt K (some .int))  (a1 : Int32) (σ : Wd) : Cm K 4 (0, 0) (f_X7_ticks a1 σ) σ 0 [(0, .ref (K.G.A 102)), (1, .int a1)] [] := by
  refine r_aload_n (i := 0) hO rfl rfl dX7_ticks_0 ?_
  refine r_iconst hO ci_0 dX7_ticks_1 ?_
  refine pX7_70 hO dX7_ticks_2 ?_
  refine r_nmW fun σ1 => ?_
  refine r_aload_n (i := 0) hO rfl rfl dX7_ticks_5 ?_
  refine gX7_241 hO dX7_ticks_6 ?_
  refine r_if_ne (tgt := 18) hO dX7_ticks_9 (by decide) ?_ ?_
  · refine r_aload_n (i := 0) hO rfl rfl dX7_ticks_12 ?_
    refine r_iconst hO ci_1 dX7_ticks_13 ?_
    refine k_X7_refused hO a_465 rfl ⟨rfl, rfl, Nat.le_refl _, Nat.le_refl _⟩ dX7_ticks_14 ?_
    intro r2 σ3
    exact r_iret hO hR dX7_ticks_17
  · refine r_iload_n (i := 1) hO rfl rfl dX7_ticks_18 ?_
    refine r_iconst hO ci_1 dX7_ticks_19 ?_
    refine r_sipush hO si_200 dX7_ticks_20 ?_
    refine k_X7_in hO a_483 rfl ⟨rfl, rfl, Nat.le_refl _, Nat.le_refl _⟩ dX7_ticks_23 ?_
    intro r4 σ5
    refine r_if_ne (tgt := 35) hO dX7_ticks_26 (by decide) ?_ ?_
    · refine r_aload_n (i := 0) hO rfl rfl dX7_ticks_29 ?_
      refine r_iconst hO ci_2 dX7_ticks_30 ?_
      refine k_X7_refused hO a_465 rfl ⟨rfl, rfl, Nat.le_refl _, Nat.le_refl _⟩ dX7_ticks_31 ?_
      intro r6 σ7
      exact r_iret hO hR dX7_ticks_34
    · refine r_aload_n (i := 0) hO rfl rfl dX7_ticks_35 ?_
      refine gX7_44 hO dX7_ticks_36 ?_
      refine r_bipush hO bi_36 dX7_ticks_39 ?_
      refine r_iald hO s_112 dX7_ticks_41 ?_
      refine r_if_ne (tgt := 51) hO dX7_ticks_42 (by decide) ?_ ?_
      · refine r_aload_n (i := 0) hO rfl rfl dX7_ticks_45 ?_
        refine r_iconst hO ci_5 dX7_ticks_46 ?_
        refine k_X7_refused hO a_465 rfl ⟨rfl, rfl, Nat.le_refl _, Nat.le_refl _⟩ dX7_ticks_47 ?_
        intro r8 σ9
        exact r_iret hO hR dX7_ticks_50
      · refine r_iconst hO ci_0 dX7_ticks_51 ?_
        refine r_istore_n (i := 2) hO rfl rfl rfl dX7_ticks_52 ?_
        refine r_iconst hO ci_0 dX7_ticks_53 ?_
        refine r_istore_n (i := 3) hO rfl rfl rfl dX7_ticks_54 ?_
        exact r_jmp (b_X7_ticks_55 hO hR FU a1 (0 : Int32) (0 : Int32) σ5) (lsub_c rfl (lsub_c rfl (lsub_c rfl (lsub_c rfl lsub_n))))
theorem c_X7_ticks {l : Launch} {G : Gh}   (a1 : Int32) (σ : Wd) : Con l G yX7_ticks cX7_ticks 4 (some .int) 9 208 [.ref (G.A 102), .int a1] σ (f_X7_ticks a1 σ) := Con.of (plainFor_of_name (by decide)) rfl (Nat.le_of_ble_eq_true rfl) (fun K hl hG hO hR => by subst hl; subst hG; exact b_X7_ticks hO hR  a1 σ)
theorem cal_X7_ticks : CalV yX7_ticks cX7_ticks 4 (some .int) 1 := ⟨a_849, a_850, a_851, a_464, by decide, by decide, by decide +kernel⟩
theorem k_X7_ticks {K : Kt} {nL : Nat} {cs : Nat × Nat} {σ : Wd} {pc : Nat} {lv : List (Nat × Value)} {st : List Value} {cc : ByteArray} {own : String} {rm : Room} {index : Nat} {g : Int32 → Wd → Option (Int32 × Wd)} {a1 : Int32} (hO : Ok K cc own nL rm)  (hl : Cond.methodLink own index yX7_ticks ∈ gtb) (hcat : Nat.ble ((st.map fun v => v.category).sum) 8 = true) (hR : RoomOk rm cs 9 208 4) (d : decode cc pc = .ok (.invokevirtual index, 3)) (kk : ∀ (r : Int32) (σ : Wd), Cm K nL cs (g r σ) σ (pc + 3) lv (.int r :: st)) : Cm K nL cs (bd (f_X7_ticks a1 σ) g) σ pc lv (.int a1 :: .ref (K.G.A 102) :: st) := r_cVi hO (c_X7_ticks  a1 σ) cal_X7_ticks hl rfl (by decide) ent_X7 rfl rfl hcat hR d kk
/-! OrderSplitModel.call -/
def f_X7_call_68    (σ : Wd) : Option (Int32 × Wd) := bd (f_X7_refused (5 : Int32) σ) fun r1 σ2 => some (r1, σ2)
def f_X7_call_54   (x1 : Int32) (x3 : Int32) (σ : Wd) : Option (Int32 × Wd) := gd (inb (x3 + (6 : Int32)) 179) (if (σ.1 112 (ix (x3 + (6 : Int32)))) = (-2 : Int32) then (gd (inb (37 : Int32) 179) (bd (f_X7_told x1 (3 : Int32) σ) fun r1 σ2 => gd (inb (x3 + (6 : Int32)) 179) (nmW (wi σ2 112 (ix (x3 + (6 : Int32))) ((σ.1 112 (ix (37 : Int32))) + r1)) fun σ3 => gd (inb (x3 + (6 : Int32)) 179) (bd (f_X7_good (σ3.1 112 (ix (x3 + (6 : Int32)))) σ3) fun r4 σ5 => some (r4, σ5))))) else (f_X7_call_68 σ))
def f_X7_call (a1 : Int32) (σ : Wd) : Option (Int32 × Wd) := nmW (wi σ 102 0 (0 : Int32)) fun σ1 => bd (f_X7_isVenue a1 σ1) fun r2 σ3 => bd (f_X7_refusesRun r2 σ3) fun r4 σ5 => if r4 ≤ 0 then (bd (f_X7_partAt a1 σ5) fun r6 σ7 => gd (inb (r6 + (0 : Int32)) 179) (if (σ7.1 112 (ix (r6 + (0 : Int32)))) = (1 : Int32) then (f_X7_call_54 a1 r6 σ7) else (gd (inb (r6 + (0 : Int32)) 179) (if (σ7.1 112 (ix (r6 + (0 : Int32)))) = (2 : Int32) then (f_X7_call_54 a1 r6 σ7) else (f_X7_call_68 σ7))))) else (bd (f_X7_refused r4 σ5) fun r8 σ9 => some (r8, σ9))
set_option maxRecDepth 20000 in
set_option maxHeartbeats 1000000 in
theorem b_X7_call_68 {K : Kt}   (hO : Ok K cX7_call RX7 4 rm_X7_call) (hR : Rt K (some .int))    (σ : Wd)  : Cm K 4 (0, 0) (f_X7_call_68   σ) σ 68 [(0, .ref (K.G.A 102))] [] := by
  refine r_aload_n (i := 0) hO rfl rfl dX7_call_68 ?_
  refine r_iconst hO ci_5 dX7_call_69 ?_
  refine k_X7_refused hO a_465 rfl ⟨rfl, rfl, Nat.le_refl _, Nat.le_refl _⟩ dX7_call_70 ?_
  intro r1 σ2
  exact r_iret hO hR dX7_call_73
set_option maxRecDepth 20000 in
set_option maxHeartbeats 1000000 in
theorem b_X7_call_54 {K : Kt}   (hO : Ok K cX7_call RX7 4 rm_X7_call) (hR : Rt K (some .int))   (x1 : Int32) (x3 : Int32) (σ : Wd)  : Cm K 4 (0, 0) (f_X7_call_54  x1 x3 σ) σ 54 [(0, .ref (K.G.A 102)), (1, .int x1), (3, .int x3)] [] := by
  refine r_aload_n (i := 0) hO rfl rfl dX7_call_54 ?_
  refine gX7_44 hO dX7_call_55 ?_
  refine r_iload_n (i := 3) hO rfl rfl dX7_call_58 ?_
  refine r_bipush hO bi_6 dX7_call_59 ?_
  refine r_iadd hO dX7_call_61 ?_
  refine r_iald hO s_112 dX7_call_62 ?_
  refine r_bipush hO bi_m2 dX7_call_63 ?_
  refine r_icmp_eq (tgt := 74) hO dX7_call_65 (by decide) ?_ ?_
  · refine r_aload_n (i := 0) hO rfl rfl dX7_call_74 ?_
    refine gX7_44 hO dX7_call_75 ?_
    refine r_iload_n (i := 3) hO rfl rfl dX7_call_78 ?_
    refine r_bipush hO bi_6 dX7_call_79 ?_
    refine r_iadd hO dX7_call_81 ?_
    refine r_aload_n (i := 0) hO rfl rfl dX7_call_82 ?_
    refine gX7_44 hO dX7_call_83 ?_
    refine r_bipush hO bi_37 dX7_call_86 ?_
    refine r_iald hO s_112 dX7_call_88 ?_
    refine r_aload_n (i := 0) hO rfl rfl dX7_call_89 ?_
    refine r_iload_n (i := 1) hO rfl rfl dX7_call_90 ?_
    refine r_iconst hO ci_3 dX7_call_91 ?_
    refine k_X7_told hO a_575 rfl ⟨rfl, rfl, Nat.le_refl _, Nat.le_refl _⟩ dX7_call_92 ?_
    intro r1 σ2
    refine r_iadd hO dX7_call_95 ?_
    refine r_iast hO s_112 dX7_call_96 ?_
    refine r_nmW fun σ3 => ?_
    refine r_aload_n (i := 0) hO rfl rfl dX7_call_97 ?_
    refine r_aload_n (i := 0) hO rfl rfl dX7_call_98 ?_
    refine gX7_44 hO dX7_call_99 ?_
    refine r_iload_n (i := 3) hO rfl rfl dX7_call_102 ?_
    refine r_bipush hO bi_6 dX7_call_103 ?_
    refine r_iadd hO dX7_call_105 ?_
    refine r_iald hO s_112 dX7_call_106 ?_
    refine k_X7_good hO a_592 rfl ⟨rfl, rfl, Nat.le_refl _, Nat.le_refl _⟩ dX7_call_107 ?_
    intro r4 σ5
    exact r_iret hO hR dX7_call_110
  · exact r_jmp (b_X7_call_68 hO hR σ) (lsub_c rfl lsub_n)
set_option maxRecDepth 20000 in
set_option maxHeartbeats 1000000 in
theorem b_X7_call {K : Kt}  (hO : Ok K cX7_call RX7 4 rm_X7_call) (hR : Rt K (some .int))  (a1 : Int32) (σ : Wd) : Cm K 4 (0, 0) (f_X7_call a1 σ) σ 0 [(0, .ref (K.G.A 102)), (1, .int a1)] [] := by
  refine r_aload_n (i := 0) hO rfl rfl dX7_call_0 ?_
  refine r_iconst hO ci_0 dX7_call_1 ?_
  refine pX7_70 hO dX7_call_2 ?_
  refine r_nmW fun σ1 => ?_
  refine r_aload_n (i := 0) hO rfl rfl dX7_call_5 ?_
  refine r_aload_n (i := 0) hO rfl rfl dX7_call_6 ?_
  refine r_iload_n (i := 1) hO rfl rfl dX7_call_7 ?_
  refine k_X7_isVenue hO a_641 rfl ⟨rfl, rfl, Nat.le_refl _, Nat.le_refl _⟩ dX7_call_8 ?_
  intro r2 σ3
  refine k_X7_refusesRun hO a_815 rfl ⟨rfl, rfl, Nat.le_refl _, Nat.le_refl _⟩ dX7_call_11 ?_
  intro r4 σ5
  refine r_istore_n (i := 2) hO rfl rfl rfl dX7_call_14 ?_
  refine r_iload_n (i := 2) hO rfl rfl dX7_call_15 ?_
  refine r_if_le (tgt := 25) hO dX7_call_16 (by decide) ?_ ?_
  · refine r_iload_n (i := 1) hO rfl rfl dX7_call_25 ?_
    refine k_X7_partAt hO a_581 rfl ⟨rfl, rfl, Nat.le_refl _, Nat.le_refl _⟩ dX7_call_26 ?_
    intro r6 σ7
    refine r_istore_n (i := 3) hO rfl rfl rfl dX7_call_29 ?_
    refine r_aload_n (i := 0) hO rfl rfl dX7_call_30 ?_
    refine gX7_44 hO dX7_call_31 ?_
    refine r_iload_n (i := 3) hO rfl rfl dX7_call_34 ?_
    refine r_iconst hO ci_0 dX7_call_35 ?_
    refine r_iadd hO dX7_call_36 ?_
    refine r_iald hO s_112 dX7_call_37 ?_
    refine r_iconst hO ci_1 dX7_call_38 ?_
    refine r_icmp_eq (tgt := 54) hO dX7_call_39 (by decide) ?_ ?_
    · exact r_jmp (b_X7_call_54 hO hR a1 r6 σ7) (lsub_c rfl (lsub_c rfl (lsub_c rfl lsub_n)))
    · refine r_aload_n (i := 0) hO rfl rfl dX7_call_42 ?_
      refine gX7_44 hO dX7_call_43 ?_
      refine r_iload_n (i := 3) hO rfl rfl dX7_call_46 ?_
      refine r_iconst hO ci_0 dX7_call_47 ?_
      refine r_iadd hO dX7_call_48 ?_
      refine r_iald hO s_112 dX7_call_49 ?_
      refine r_iconst hO ci_2 dX7_call_50 ?_
      refine r_icmp_ne (tgt := 68) hO dX7_call_51 (by decide) ?_ ?_
      · exact r_jmp (b_X7_call_54 hO hR a1 r6 σ7) (lsub_c rfl (lsub_c rfl (lsub_c rfl lsub_n)))
      · exact r_jmp (b_X7_call_68 hO hR σ7) (lsub_c rfl lsub_n)
  · refine r_aload_n (i := 0) hO rfl rfl dX7_call_19 ?_
    refine r_iload_n (i := 2) hO rfl rfl dX7_call_20 ?_
    refine k_X7_refused hO a_465 rfl ⟨rfl, rfl, Nat.le_refl _, Nat.le_refl _⟩ dX7_call_21 ?_
    intro r8 σ9
    exact r_iret hO hR dX7_call_24
theorem c_X7_call {l : Launch} {G : Gh}   (a1 : Int32) (σ : Wd) : Con l G yX7_call cX7_call 4 (some .int) 2 43 [.ref (G.A 102), .int a1] σ (f_X7_call a1 σ) := Con.of (plainFor_of_name (by decide)) rfl (Nat.le_of_ble_eq_true rfl) (fun K hl hG hO hR => by subst hl; subst hG; exact b_X7_call hO hR  a1 σ)
theorem cal_X7_call : CalV yX7_call cX7_call 4 (some .int) 1 := ⟨a_852, a_853, a_854, a_464, by decide, by decide, by decide +kernel⟩
theorem k_X7_call {K : Kt} {nL : Nat} {cs : Nat × Nat} {σ : Wd} {pc : Nat} {lv : List (Nat × Value)} {st : List Value} {cc : ByteArray} {own : String} {rm : Room} {index : Nat} {g : Int32 → Wd → Option (Int32 × Wd)} {a1 : Int32} (hO : Ok K cc own nL rm)  (hl : Cond.methodLink own index yX7_call ∈ gtb) (hcat : Nat.ble ((st.map fun v => v.category).sum) 8 = true) (hR : RoomOk rm cs 2 43 4) (d : decode cc pc = .ok (.invokevirtual index, 3)) (kk : ∀ (r : Int32) (σ : Wd), Cm K nL cs (g r σ) σ (pc + 3) lv (.int r :: st)) : Cm K nL cs (bd (f_X7_call a1 σ) g) σ pc lv (.int a1 :: .ref (K.G.A 102) :: st) := r_cVi hO (c_X7_call  a1 σ) cal_X7_call hl rfl (by decide) ent_X7 rfl rfl hcat hR d kk
/-! OrderSplitModel.keep -/
def f_X7_keep  (σ : Wd) : Option (Int32 × Wd) := nmW (wi σ 102 0 (0 : Int32)) fun σ1 => if (σ1.1 102 21) = 0 then (bd (f_X7_refused (1 : Int32) σ1) fun r2 σ3 => gd (isb (0 : Int32)) (some ((0 : Int32), σ3))) else (bd (f_X7_copies 112 179 113 179 σ1) fun _ σ4 => gd (isb (1 : Int32)) (nmW (wi σ4 102 25 (1 : Int32)) fun σ5 => bd (f_X7_good (0 : Int32) σ5) fun r6 σ7 => gd (isb (1 : Int32)) (some ((1 : Int32), σ7))))
set_option maxRecDepth 20000 in
set_option maxHeartbeats 1000000 in
theorem b_X7_keep {K : Kt}  (hO : Ok K cX7_keep RX7 1 rm_X7_keep) (hR : Rt K (some .boolean))   (σ : Wd) : Cm K 1 (0, 0) (f_X7_keep  σ) σ 0 [(0, .ref (K.G.A 102))] [] := by
  refine r_aload_n (i := 0) hO rfl rfl dX7_keep_0 ?_
  refine r_iconst hO ci_0 dX7_keep_1 ?_
  refine pX7_70 hO dX7_keep_2 ?_
  refine r_nmW fun σ1 => ?_
  refine r_aload_n (i := 0) hO rfl rfl dX7_keep_5 ?_
  refine gX7_241 hO dX7_keep_6 ?_
  refine r_if_ne (tgt := 20) hO dX7_keep_9 (by decide) ?_ ?_
  · refine r_aload_n (i := 0) hO rfl rfl dX7_keep_12 ?_
    refine r_iconst hO ci_1 dX7_keep_13 ?_
    refine k_X7_refused hO a_465 rfl ⟨rfl, rfl, Nat.le_refl _, Nat.le_refl _⟩ dX7_keep_14 ?_
    intro r2 σ3
    refine r_pop hO rfl dX7_keep_17 ?_
    refine r_iconst hO ci_0 dX7_keep_18 ?_
    exact r_zret hO hR dX7_keep_19
  · refine r_aload_n (i := 0) hO rfl rfl dX7_keep_20 ?_
    refine gX7_44 hO dX7_keep_21 ?_
    refine r_aload_n (i := 0) hO rfl rfl dX7_keep_24 ?_
    refine gX7_47 hO dX7_keep_25 ?_
    refine k_X7_copies hO s_112 s_113 a_832 rfl ⟨rfl, rfl, Nat.le_refl _, Nat.le_refl _⟩ dX7_keep_28 ?_
    intro _ σ4
    refine r_aload_n (i := 0) hO rfl rfl dX7_keep_31 ?_
    refine r_iconst hO ci_1 dX7_keep_32 ?_
    refine pX7_245 hO dX7_keep_33 ?_
    refine r_nmW fun σ5 => ?_
    refine r_aload_n (i := 0) hO rfl rfl dX7_keep_36 ?_
    refine r_iconst hO ci_0 dX7_keep_37 ?_
    refine k_X7_good hO a_592 rfl ⟨rfl, rfl, Nat.le_refl _, Nat.le_refl _⟩ dX7_keep_38 ?_
    intro r6 σ7
    refine r_pop hO rfl dX7_keep_41 ?_
    refine r_iconst hO ci_1 dX7_keep_42 ?_
    exact r_zret hO hR dX7_keep_43
theorem c_X7_keep {l : Launch} {G : Gh}    (σ : Wd) : Con l G yX7_keep cX7_keep 1 (some .boolean) 1 22 [.ref (G.A 102)] σ (f_X7_keep  σ) := Con.of (plainFor_of_name (by decide)) rfl (Nat.le_of_ble_eq_true rfl) (fun K hl hG hO hR => by subst hl; subst hG; exact b_X7_keep hO hR   σ)
theorem cal_X7_keep : CalV yX7_keep cX7_keep 1 (some .boolean) 0 := ⟨a_855, a_856, a_857, a_464, by decide, by decide, by decide +kernel⟩
theorem k_X7_keep {K : Kt} {nL : Nat} {cs : Nat × Nat} {σ : Wd} {pc : Nat} {lv : List (Nat × Value)} {st : List Value} {cc : ByteArray} {own : String} {rm : Room} {index : Nat} {g : Int32 → Wd → Option (Int32 × Wd)}  (hO : Ok K cc own nL rm)  (hl : Cond.methodLink own index yX7_keep ∈ gtb) (hcat : Nat.ble ((st.map fun v => v.category).sum) 8 = true) (hR : RoomOk rm cs 1 22 1) (d : decode cc pc = .ok (.invokevirtual index, 3)) (kk : ∀ (r : Int32) (σ : Wd), Cm K nL cs (g r σ) σ (pc + 3) lv (.int r :: st)) : Cm K nL cs (bd (f_X7_keep  σ) g) σ pc lv (.ref (K.G.A 102) :: st) := r_cVi hO (c_X7_keep   σ) cal_X7_keep hl rfl (by decide) ent_X7 rfl rfl hcat hR d kk
/-! OrderSplitModel.back -/
def f_X7_back  (σ : Wd) : Option (Int32 × Wd) := nmW (wi σ 102 0 (0 : Int32)) fun σ1 => if (σ1.1 102 25) = 0 then (bd (f_X7_refused (1 : Int32) σ1) fun r2 σ3 => gd (isb (0 : Int32)) (some ((0 : Int32), σ3))) else (bd (f_X7_copies 113 179 112 179 σ1) fun _ σ4 => bd (f_X7_good (0 : Int32) σ4) fun r5 σ6 => gd (isb (1 : Int32)) (some ((1 : Int32), σ6)))
set_option maxRecDepth 20000 in
set_option maxHeartbeats 1000000 in
theorem b_X7_back {K : Kt}  (hO : Ok K cX7_back RX7 1 rm_X7_back) (hR : Rt K (some .boolean))   (σ : Wd) : Cm K 1 (0, 0) (f_X7_back  σ) σ 0 [(0, .ref (K.G.A 102))] [] := by
  refine r_aload_n (i := 0) hO rfl rfl dX7_back_0 ?_
  refine r_iconst hO ci_0 dX7_back_1 ?_
  refine pX7_70 hO dX7_back_2 ?_
  refine r_nmW fun σ1 => ?_
  refine r_aload_n (i := 0) hO rfl rfl dX7_back_5 ?_
  refine gX7_245 hO dX7_back_6 ?_
  refine r_if_ne (tgt := 20) hO dX7_back_9 (by decide) ?_ ?_
  · refine r_aload_n (i := 0) hO rfl rfl dX7_back_12 ?_
    refine r_iconst hO ci_1 dX7_back_13 ?_
    refine k_X7_refused hO a_465 rfl ⟨rfl, rfl, Nat.le_refl _, Nat.le_refl _⟩ dX7_back_14 ?_
    intro r2 σ3
    refine r_pop hO rfl dX7_back_17 ?_
    refine r_iconst hO ci_0 dX7_back_18 ?_
    exact r_zret hO hR dX7_back_19
  · refine r_aload_n (i := 0) hO rfl rfl dX7_back_20 ?_
    refine gX7_47 hO dX7_back_21 ?_
    refine r_aload_n (i := 0) hO rfl rfl dX7_back_24 ?_
    refine gX7_44 hO dX7_back_25 ?_
    refine k_X7_copies hO s_113 s_112 a_832 rfl ⟨rfl, rfl, Nat.le_refl _, Nat.le_refl _⟩ dX7_back_28 ?_
    intro _ σ4
    refine r_aload_n (i := 0) hO rfl rfl dX7_back_31 ?_
    refine r_iconst hO ci_0 dX7_back_32 ?_
    refine k_X7_good hO a_592 rfl ⟨rfl, rfl, Nat.le_refl _, Nat.le_refl _⟩ dX7_back_33 ?_
    intro r5 σ6
    refine r_pop hO rfl dX7_back_36 ?_
    refine r_iconst hO ci_1 dX7_back_37 ?_
    exact r_zret hO hR dX7_back_38
theorem c_X7_back {l : Launch} {G : Gh}    (σ : Wd) : Con l G yX7_back cX7_back 1 (some .boolean) 1 22 [.ref (G.A 102)] σ (f_X7_back  σ) := Con.of (plainFor_of_name (by decide)) rfl (Nat.le_of_ble_eq_true rfl) (fun K hl hG hO hR => by subst hl; subst hG; exact b_X7_back hO hR   σ)
theorem cal_X7_back : CalV yX7_back cX7_back 1 (some .boolean) 0 := ⟨a_858, a_859, a_860, a_464, by decide, by decide, by decide +kernel⟩
theorem k_X7_back {K : Kt} {nL : Nat} {cs : Nat × Nat} {σ : Wd} {pc : Nat} {lv : List (Nat × Value)} {st : List Value} {cc : ByteArray} {own : String} {rm : Room} {index : Nat} {g : Int32 → Wd → Option (Int32 × Wd)}  (hO : Ok K cc own nL rm)  (hl : Cond.methodLink own index yX7_back ∈ gtb) (hcat : Nat.ble ((st.map fun v => v.category).sum) 8 = true) (hR : RoomOk rm cs 1 22 1) (d : decode cc pc = .ok (.invokevirtual index, 3)) (kk : ∀ (r : Int32) (σ : Wd), Cm K nL cs (g r σ) σ (pc + 3) lv (.int r :: st)) : Cm K nL cs (bd (f_X7_back  σ) g) σ pc lv (.ref (K.G.A 102) :: st) := r_cVi hO (c_X7_back   σ) cal_X7_back hl rfl (by decide) ent_X7 rfl rfl hcat hR d kk
/-! OrderSplitModel.dry -/
def f_X7_dry_50  (k9 : Int32 → Int32 → Int32 → Wd → Option (Int32 × Wd)) (x1 : Int32) (x2 : Int32) (x3 : Int32) (σ : Wd) : Option (Int32 × Wd) := (k9 x1 x2 (x3 + (1 : Int32)) σ)
def f_X7_dry_56    (σ : Wd) : Option (Int32 × Wd) := nmW (wi σ 102 0 (1 : Int32)) fun σ1 => some ((0 : Int32), σ1)
def f_X7_dry_9   : Nat → Int32 → Int32 → Int32 → Wd → Option (Int32 × Wd)
  | 0 => fun _ _ _ _ => none
  | n + 1 => fun x1 x2 x3 σ => if (σ.1 102 21) = 0 then (f_X7_dry_56 σ) else (if (σ.1 102 14) ≤ x3 then (f_X7_dry_56 σ) else (bd (f_X7_depth x3 σ) fun r1 σ2 => bd (f_X7_lot x3 σ2) fun r3 σ4 => if r1 < r3 then (if x2 = x1 then (some (x3, σ4)) else (f_X7_dry_50 (f_X7_dry_9 n) x1 (x2 + (1 : Int32)) x3 σ4)) else (f_X7_dry_50 (f_X7_dry_9 n) x1 x2 x3 σ4)))
def f_X7_dry (a1 : Int32) (σ : Wd) : Option (Int32 × Wd) := nmW (wi σ 102 0 (0 : Int32)) fun σ1 => (f_X7_dry_9 FU a1 (0 : Int32) (0 : Int32) σ1)
set_option maxRecDepth 20000 in
set_option maxHeartbeats 1000000 in
theorem b_X7_dry_50 {K : Kt}  {k9 : Int32 → Int32 → Int32 → Wd → Option (Int32 × Wd)} (hO : Ok K cX7_dry RX7 4 rm_X7_dry) (hR : Rt K (some .int))   (hk9 : ∀ (x1 : Int32) (x2 : Int32) (x3 : Int32) (σ : Wd), Cm K 4 (0, 0) (k9 x1 x2 x3 σ) σ 9 [(0, .ref (K.G.A 102)), (1, .int x1), (2, .int x2), (3, .int x3)] []) (x1 : Int32) (x2 : Int32) (x3 : Int32) (σ : Wd)  : Cm K 4 (0, 0) (f_X7_dry_50 k9 x1 x2 x3 σ) σ 50 [(0, .ref (K.G.A 102)), (1, .int x1), (2, .int x2), (3, .int x3)] [] := by
  refine r_iinc hO rfl ci_1 rfl rfl dX7_dry_50 ?_
  refine r_goto (tgt := 9) hO dX7_dry_53 (by decide) ?_
  exact r_jmp (hk9 x1 x2 (x3 + (1 : Int32)) σ) (lsub_c rfl (lsub_c rfl (lsub_c rfl (lsub_c rfl lsub_n))))
set_option maxRecDepth 20000 in
set_option maxHeartbeats 1000000 in
theorem b_X7_dry_56 {K : Kt}   (hO : Ok K cX7_dry RX7 4 rm_X7_dry) (hR : Rt K (some .int))    (σ : Wd)  : Cm K 4 (0, 0) (f_X7_dry_56   σ) σ 56 [(0, .ref (K.G.A 102))] [] := by
  refine r_aload_n (i := 0) hO rfl rfl dX7_dry_56 ?_
  refine r_iconst hO ci_1 dX7_dry_57 ?_
  refine pX7_70 hO dX7_dry_58 ?_
  refine r_nmW fun σ1 => ?_
  refine r_iconst hO ci_0 dX7_dry_61 ?_
  exact r_iret hO hR dX7_dry_62
set_option maxRecDepth 20000 in
set_option maxHeartbeats 1000000 in
theorem b_X7_dry_9 {K : Kt}   (hO : Ok K cX7_dry RX7 4 rm_X7_dry) (hR : Rt K (some .int))   : ∀ (n : Nat) (x1 : Int32) (x2 : Int32) (x3 : Int32) (σ : Wd) , Cm K 4 (0, 0) (f_X7_dry_9  n x1 x2 x3 σ) σ 9 [(0, .ref (K.G.A 102)), (1, .int x1), (2, .int x2), (3, .int x3)] [] := by
  intro n
  induction n with
  | zero => intro x1 x2 x3 σ ; exact r_none
  | succ n ih =>
    intro x1 x2 x3 σ 
    refine r_aload_n (i := 0) hO rfl rfl dX7_dry_9 ?_
    refine gX7_241 hO dX7_dry_10 ?_
    refine r_if_eq (tgt := 56) hO dX7_dry_13 (by decide) ?_ ?_
    · exact r_jmp (b_X7_dry_56 hO hR σ) (lsub_c rfl lsub_n)
    · refine r_iload_n (i := 3) hO rfl rfl dX7_dry_16 ?_
      refine r_aload_n (i := 0) hO rfl rfl dX7_dry_17 ?_
      refine gX7_235 hO dX7_dry_18 ?_
      refine r_icmp_ge (tgt := 56) hO dX7_dry_21 (by decide) ?_ ?_
      · exact r_jmp (b_X7_dry_56 hO hR σ) (lsub_c rfl lsub_n)
      · refine r_aload_n (i := 0) hO rfl rfl dX7_dry_24 ?_
        refine r_iload_n (i := 3) hO rfl rfl dX7_dry_25 ?_
        refine k_X7_depth hO a_644 rfl ⟨rfl, rfl, Nat.le_refl _, Nat.le_refl _⟩ dX7_dry_26 ?_
        intro r1 σ2
        refine r_aload_n (i := 0) hO rfl rfl dX7_dry_29 ?_
        refine r_iload_n (i := 3) hO rfl rfl dX7_dry_30 ?_
        refine k_X7_lot hO a_643 rfl ⟨rfl, rfl, Nat.le_refl _, Nat.le_refl _⟩ dX7_dry_31 ?_
        intro r3 σ4
        refine r_icmp_lt (tgt := 40) hO dX7_dry_34 (by decide) ?_ ?_
        · refine r_iload_n (i := 2) hO rfl rfl dX7_dry_40 ?_
          refine r_iload_n (i := 1) hO rfl rfl dX7_dry_41 ?_
          refine r_icmp_ne (tgt := 47) hO dX7_dry_42 (by decide) ?_ ?_
          · refine r_iload_n (i := 3) hO rfl rfl dX7_dry_45 ?_
            exact r_iret hO hR dX7_dry_46
          · refine r_iinc hO rfl ci_1 rfl rfl dX7_dry_47 ?_
            exact r_jmp (b_X7_dry_50 hO hR ih x1 (x2 + (1 : Int32)) x3 σ4) (lsub_c rfl (lsub_c rfl (lsub_c rfl (lsub_c rfl lsub_n))))
        · refine r_goto (tgt := 50) hO dX7_dry_37 (by decide) ?_
          exact r_jmp (b_X7_dry_50 hO hR ih x1 x2 x3 σ4) (lsub_c rfl (lsub_c rfl (lsub_c rfl (lsub_c rfl lsub_n))))
set_option maxRecDepth 20000 in
set_option maxHeartbeats 1000000 in
theorem b_X7_dry {K : Kt}  (hO : Ok K cX7_dry RX7 4 rm_X7_dry) (hR : Rt K (some .int))  (a1 : Int32) (σ : Wd) : Cm K 4 (0, 0) (f_X7_dry a1 σ) σ 0 [(0, .ref (K.G.A 102)), (1, .int a1)] [] := by
  refine r_aload_n (i := 0) hO rfl rfl dX7_dry_0 ?_
  refine r_iconst hO ci_0 dX7_dry_1 ?_
  refine pX7_70 hO dX7_dry_2 ?_
  refine r_nmW fun σ1 => ?_
  refine r_iconst hO ci_0 dX7_dry_5 ?_
  refine r_istore_n (i := 2) hO rfl rfl rfl dX7_dry_6 ?_
  refine r_iconst hO ci_0 dX7_dry_7 ?_
  refine r_istore_n (i := 3) hO rfl rfl rfl dX7_dry_8 ?_
  exact r_jmp (b_X7_dry_9 hO hR FU a1 (0 : Int32) (0 : Int32) σ1) (lsub_c rfl (lsub_c rfl (lsub_c rfl (lsub_c rfl lsub_n))))
theorem c_X7_dry {l : Launch} {G : Gh}   (a1 : Int32) (σ : Wd) : Con l G yX7_dry cX7_dry 4 (some .int) 4 88 [.ref (G.A 102), .int a1] σ (f_X7_dry a1 σ) := Con.of (plainFor_of_name (by decide)) rfl (Nat.le_of_ble_eq_true rfl) (fun K hl hG hO hR => by subst hl; subst hG; exact b_X7_dry hO hR  a1 σ)
theorem cal_X7_dry : CalV yX7_dry cX7_dry 4 (some .int) 1 := ⟨a_861, a_862, a_863, a_464, by decide, by decide, by decide +kernel⟩
theorem k_X7_dry {K : Kt} {nL : Nat} {cs : Nat × Nat} {σ : Wd} {pc : Nat} {lv : List (Nat × Value)} {st : List Value} {cc : ByteArray} {own : String} {rm : Room} {index : Nat} {g : Int32 → Wd → Option (Int32 × Wd)} {a1 : Int32} (hO : Ok K cc own nL rm)  (hl : Cond.methodLink own index yX7_dry ∈ gtb) (hcat : Nat.ble ((st.map fun v => v.category).sum) 8 = true) (hR : RoomOk rm cs 4 88 4) (d : decode cc pc = .ok (.invokevirtual index, 3)) (kk : ∀ (r : Int32) (σ : Wd), Cm K nL cs (g r σ) σ (pc + 3) lv (.int r :: st)) : Cm K nL cs (bd (f_X7_dry a1 σ) g) σ pc lv (.int a1 :: .ref (K.G.A 102) :: st) := r_cVi hO (c_X7_dry  a1 σ) cal_X7_dry hl rfl (by decide) ent_X7 rfl rfl hcat hR d kk
/-! OrderSplitModel.size -/
def f_X7_size_31   (s0 : Int32) (σ : Wd) : Option (Int32 × Wd) := some (s0, σ)
def f_X7_size_48   (s0 : Int32) (σ : Wd) : Option (Int32 × Wd) := some (s0, σ)
def f_X7_size (a1 : Int32) (σ : Wd) : Option (Int32 × Wd) := nmW (wi σ 102 0 (0 : Int32)) fun σ1 => if a1 = 0 then (some (σ1.1 102 27, σ1)) else (if a1 = (1 : Int32) then (if (σ1.1 102 25) = 0 then (f_X7_size_31 (0 : Int32) σ1) else (f_X7_size_31 (1 : Int32) σ1)) else (if a1 = (2 : Int32) then (gd (inb (36 : Int32) 179) ((f_X7_size_48 (σ1.1 112 (ix (36 : Int32))) σ1))) else (f_X7_size_48 (-1 : Int32) σ1)))
set_option maxRecDepth 20000 in
set_option maxHeartbeats 1000000 in
theorem b_X7_size_31 {K : Kt}   (hO : Ok K cX7_size RX7 2 rm_X7_size) (hR : Rt K (some .int))   (s0 : Int32) (σ : Wd)  : Cm K 2 (0, 0) (f_X7_size_31  s0 σ) σ 31 [] [.int s0] := by
  exact r_iret hO hR dX7_size_31
set_option maxRecDepth 20000 in
set_option maxHeartbeats 1000000 in
theorem b_X7_size_48 {K : Kt}   (hO : Ok K cX7_size RX7 2 rm_X7_size) (hR : Rt K (some .int))   (s0 : Int32) (σ : Wd)  : Cm K 2 (0, 0) (f_X7_size_48  s0 σ) σ 48 [] [.int s0] := by
  exact r_iret hO hR dX7_size_48
set_option maxRecDepth 20000 in
set_option maxHeartbeats 1000000 in
theorem b_X7_size {K : Kt}  (hO : Ok K cX7_size RX7 2 rm_X7_size) (hR : Rt K (some .int))  (a1 : Int32) (σ : Wd) : Cm K 2 (0, 0) (f_X7_size a1 σ) σ 0 [(0, .ref (K.G.A 102)), (1, .int a1)] [] := by
  refine r_aload_n (i := 0) hO rfl rfl dX7_size_0 ?_
  refine r_iconst hO ci_0 dX7_size_1 ?_
  refine pX7_70 hO dX7_size_2 ?_
  refine r_nmW fun σ1 => ?_
  refine r_iload_n (i := 1) hO rfl rfl dX7_size_5 ?_
  refine r_if_ne (tgt := 14) hO dX7_size_6 (by decide) ?_ ?_
  · refine r_aload_n (i := 0) hO rfl rfl dX7_size_9 ?_
    refine gX7_226 hO dX7_size_10 ?_
    exact r_iret hO hR dX7_size_13
  · refine r_iload_n (i := 1) hO rfl rfl dX7_size_14 ?_
    refine r_iconst hO ci_1 dX7_size_15 ?_
    refine r_icmp_ne (tgt := 32) hO dX7_size_16 (by decide) ?_ ?_
    · refine r_aload_n (i := 0) hO rfl rfl dX7_size_19 ?_
      refine gX7_245 hO dX7_size_20 ?_
      refine r_if_eq (tgt := 30) hO dX7_size_23 (by decide) ?_ ?_
      · refine r_iconst hO ci_0 dX7_size_30 ?_
        exact r_jmp (b_X7_size_31 hO hR (0 : Int32) σ1) lsub_n
      · refine r_iconst hO ci_1 dX7_size_26 ?_
        refine r_goto (tgt := 31) hO dX7_size_27 (by decide) ?_
        exact r_jmp (b_X7_size_31 hO hR (1 : Int32) σ1) lsub_n
    · refine r_iload_n (i := 1) hO rfl rfl dX7_size_32 ?_
      refine r_iconst hO ci_2 dX7_size_33 ?_
      refine r_icmp_ne (tgt := 47) hO dX7_size_34 (by decide) ?_ ?_
      · refine r_aload_n (i := 0) hO rfl rfl dX7_size_37 ?_
        refine gX7_44 hO dX7_size_38 ?_
        refine r_bipush hO bi_36 dX7_size_41 ?_
        refine r_iald hO s_112 dX7_size_43 ?_
        refine r_goto (tgt := 48) hO dX7_size_44 (by decide) ?_
        exact r_jmp (b_X7_size_48 hO hR (σ1.1 112 (ix (36 : Int32))) σ1) lsub_n
      · refine r_iconst hO ci_m1 dX7_size_47 ?_
        exact r_jmp (b_X7_size_48 hO hR (-1 : Int32) σ1) lsub_n
theorem c_X7_size {l : Launch} {G : Gh}   (a1 : Int32) (σ : Wd) : Con l G yX7_size cX7_size 2 (some .int) 0 0 [.ref (G.A 102), .int a1] σ (f_X7_size a1 σ) := Con.of (plainFor_of_name (by decide)) rfl (Nat.le_of_ble_eq_true rfl) (fun K hl hG hO hR => by subst hl; subst hG; exact b_X7_size hO hR  a1 σ)
theorem cal_X7_size : CalV yX7_size cX7_size 2 (some .int) 1 := ⟨a_864, a_865, a_866, a_464, by decide, by decide, by decide +kernel⟩
theorem k_X7_size {K : Kt} {nL : Nat} {cs : Nat × Nat} {σ : Wd} {pc : Nat} {lv : List (Nat × Value)} {st : List Value} {cc : ByteArray} {own : String} {rm : Room} {index : Nat} {g : Int32 → Wd → Option (Int32 × Wd)} {a1 : Int32} (hO : Ok K cc own nL rm)  (hl : Cond.methodLink own index yX7_size ∈ gtb) (hcat : Nat.ble ((st.map fun v => v.category).sum) 8 = true) (hR : RoomOk rm cs 0 0 2) (d : decode cc pc = .ok (.invokevirtual index, 3)) (kk : ∀ (r : Int32) (σ : Wd), Cm K nL cs (g r σ) σ (pc + 3) lv (.int r :: st)) : Cm K nL cs (bd (f_X7_size a1 σ) g) σ pc lv (.int a1 :: .ref (K.G.A 102) :: st) := r_cVi hO (c_X7_size  a1 σ) cal_X7_size hl rfl (by decide) ent_X7 rfl rfl hcat hR d kk
/-! OrderSplitModel.trouble -/
def f_X7_trouble  (σ : Wd) : Option (Int32 × Wd) := nmW (wi σ 102 0 (0 : Int32)) fun σ1 => some (σ1.1 102 1, σ1)
set_option maxRecDepth 20000 in
set_option maxHeartbeats 1000000 in
theorem b_X7_trouble {K : Kt}  (hO : Ok K cX7_trouble RX7 1 rm_X7_trouble) (hR : Rt K (some .int))   (σ : Wd) : Cm K 1 (0, 0) (f_X7_trouble  σ) σ 0 [(0, .ref (K.G.A 102))] [] := by
  refine r_aload_n (i := 0) hO rfl rfl dX7_trouble_0 ?_
  refine r_iconst hO ci_0 dX7_trouble_1 ?_
  refine pX7_70 hO dX7_trouble_2 ?_
  refine r_nmW fun σ1 => ?_
  refine r_aload_n (i := 0) hO rfl rfl dX7_trouble_5 ?_
  refine gX7_73 hO dX7_trouble_6 ?_
  exact r_iret hO hR dX7_trouble_9
theorem c_X7_trouble {l : Launch} {G : Gh}    (σ : Wd) : Con l G yX7_trouble cX7_trouble 1 (some .int) 0 0 [.ref (G.A 102)] σ (f_X7_trouble  σ) := Con.of (plainFor_of_name (by decide)) rfl (Nat.le_of_ble_eq_true rfl) (fun K hl hG hO hR => by subst hl; subst hG; exact b_X7_trouble hO hR   σ)
theorem cal_X7_trouble : CalV yX7_trouble cX7_trouble 1 (some .int) 0 := ⟨a_867, a_868, a_869, a_464, by decide, by decide, by decide +kernel⟩
theorem k_X7_trouble {K : Kt} {nL : Nat} {cs : Nat × Nat} {σ : Wd} {pc : Nat} {lv : List (Nat × Value)} {st : List Value} {cc : ByteArray} {own : String} {rm : Room} {index : Nat} {g : Int32 → Wd → Option (Int32 × Wd)}  (hO : Ok K cc own nL rm)  (hl : Cond.methodLink own index yX7_trouble ∈ gtb) (hcat : Nat.ble ((st.map fun v => v.category).sum) 8 = true) (hR : RoomOk rm cs 0 0 1) (d : decode cc pc = .ok (.invokevirtual index, 3)) (kk : ∀ (r : Int32) (σ : Wd), Cm K nL cs (g r σ) σ (pc + 3) lv (.int r :: st)) : Cm K nL cs (bd (f_X7_trouble  σ) g) σ pc lv (.ref (K.G.A 102) :: st) := r_cVi hO (c_X7_trouble   σ) cal_X7_trouble hl rfl (by decide) ent_X7 rfl rfl hcat hR d kk

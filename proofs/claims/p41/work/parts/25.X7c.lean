/-! OrderSplitModel.mostOf -/
def f_X7_mostOf_22  (k2 : Int32 → Int32 → Int32 → Wd → Option (Int32 × Wd)) (x1 : Int32) (x2 : Int32) (x3 : Int32) (s1 : Int32) (s2 : Int32) (σ : Wd) : Option (Int32 × Wd) := gd (inb s1 121) (nmW (wi σ 119 (ix s1) (vp_nar .boolean s2)) fun σ1 => (k2 x1 x2 (x3 + (1 : Int32)) σ1))
def f_X7_mostOf_123  (k31 : Int32 → Int32 → Int32 → Wd → Option (Int32 × Wd)) (k54 : Int32 → Int32 → Int32 → Int32 → Wd → Option (Int32 × Wd)) (x1 : Int32) (x2 : Int32) (x3 : Int32) (x4 : Int32) (σ : Wd) : Option (Int32 × Wd) := (k54 x1 x2 x3 (x4 + (-1 : Int32)) σ)
def f_X7_mostOf_66  (k31 : Int32 → Int32 → Int32 → Wd → Option (Int32 × Wd)) (k54 : Int32 → Int32 → Int32 → Int32 → Wd → Option (Int32 × Wd)) : Nat → Int32 → Int32 → Int32 → Int32 → Int32 → Wd → Option (Int32 × Wd)
  | 0 => fun _ _ _ _ _ _ => none
  | n + 1 => fun x1 x2 x3 x4 x5 σ => if x4 < x5 then (f_X7_mostOf_123 k31 k54 x1 x2 x3 x4 σ) else (bd (f_X7_depth x3 σ) fun r1 σ2 => if r1 < x5 then (f_X7_mostOf_123 k31 k54 x1 x2 x3 x4 σ2) else (gd (inb x4 121) (if (σ2.1 119 (ix x4)) = 0 then (gd (inb (x4 - x5) 121) (gd (inb x4 121) (nmW (wi σ2 119 (ix x4) (vp_nar .boolean (σ2.1 119 (ix (x4 - x5))))) fun σ3 => bd (f_X7_lot x3 σ3) fun r4 σ5 => (f_X7_mostOf_66 k31 k54 n x1 x2 x3 x4 (x5 + r4) σ5)))) else (f_X7_mostOf_123 k31 k54 x1 x2 x3 x4 σ2))))
def f_X7_mostOf_129  (k31 : Int32 → Int32 → Int32 → Wd → Option (Int32 × Wd)) (x1 : Int32) (x2 : Int32) (x3 : Int32) (σ : Wd) : Option (Int32 × Wd) := (k31 x1 x2 (x3 + (1 : Int32)) σ)
def f_X7_mostOf_54  (k31 : Int32 → Int32 → Int32 → Wd → Option (Int32 × Wd)) : Nat → Int32 → Int32 → Int32 → Int32 → Wd → Option (Int32 × Wd)
  | 0 => fun _ _ _ _ _ => none
  | n + 1 => fun x1 x2 x3 x4 σ => if x4 ≤ 0 then (f_X7_mostOf_129 k31 x1 x2 x3 σ) else (bd (f_X7_lot x3 σ) fun r1 σ2 => (f_X7_mostOf_66 k31 (f_X7_mostOf_54 k31 n) FU x1 x2 x3 x4 r1 σ2))
def f_X7_mostOf_137   : Nat → Int32 → Wd → Option (Int32 × Wd)
  | 0 => fun _ _ => none
  | n + 1 => fun x3 σ => gd (inb x3 121) (if (σ.1 119 (ix x3)) = 0 then (f_X7_mostOf_137 n (x3 + (-1 : Int32)) σ) else (some (x3, σ)))
def f_X7_mostOf_31   : Nat → Int32 → Int32 → Int32 → Wd → Option (Int32 × Wd)
  | 0 => fun _ _ _ _ => none
  | n + 1 => fun x1 x2 x3 σ => if (σ.1 102 14) ≤ x3 then (f_X7_mostOf_137 FU x2 σ) else (if ((x1 >>> (x3 &&& 31)) &&& (1 : Int32)) = 0 then (f_X7_mostOf_129 (f_X7_mostOf_31 n) x1 x2 x3 σ) else (f_X7_mostOf_54 (f_X7_mostOf_31 n) FU x1 x2 x3 (120 : Int32) σ))
def f_X7_mostOf_2   : Nat → Int32 → Int32 → Int32 → Wd → Option (Int32 × Wd)
  | 0 => fun _ _ _ _ => none
  | n + 1 => fun x1 x2 x3 σ => if (120 : Int32) < x3 then (f_X7_mostOf_31 FU x1 x2 (0 : Int32) σ) else (if x3 = 0 then (f_X7_mostOf_22 (f_X7_mostOf_2 n) x1 x2 x3 x3 (1 : Int32) σ) else (f_X7_mostOf_22 (f_X7_mostOf_2 n) x1 x2 x3 x3 (0 : Int32) σ))
def f_X7_mostOf (a1 : Int32) (a2 : Int32) (σ : Wd) : Option (Int32 × Wd) := (f_X7_mostOf_2 FU a1 a2 (0 : Int32) σ)
set_option maxRecDepth 20000 in
set_option maxHeartbeats 1000000 in
theorem b_X7_mostOf_22 {K : Kt}  {k2 : Int32 → Int32 → Int32 → Wd → Option (Int32 × Wd)} (hO : Ok K cX7_mostOf RX7 6 rm_X7_mostOf) (hR : Rt K (some .int))   (hk2 : ∀ (x1 : Int32) (x2 : Int32) (x3 : Int32) (σ : Wd), Cm K 6 (0, 0) (k2 x1 x2 x3 σ) σ 2 [(0, .ref (K.G.A 102)), (1, .int x1), (2, .int x2), (3, .int x3)] []) (x1 : Int32) (x2 : Int32) (x3 : Int32) (s1 : Int32) (s2 : Int32) (σ : Wd)  : Cm K 6 (0, 0) (f_X7_mostOf_22 k2 x1 x2 x3 s1 s2 σ) σ 22 [(0, .ref (K.G.A 102)), (1, .int x1), (2, .int x2), (3, .int x3)] [.int s2, .int s1, .ref (K.G.A 119)] := by
  refine r_zast hO s_119 dX7_mostOf_22 ?_
  refine r_nmW fun σ1 => ?_
  refine r_iinc hO rfl ci_1 rfl rfl dX7_mostOf_23 ?_
  refine r_goto (tgt := 2) hO dX7_mostOf_26 (by decide) ?_
  exact r_jmp (hk2 x1 x2 (x3 + (1 : Int32)) σ1) (lsub_c rfl (lsub_c rfl (lsub_c rfl (lsub_c rfl lsub_n))))
set_option maxRecDepth 20000 in
set_option maxHeartbeats 1000000 in
theorem b_X7_mostOf_123 {K : Kt}  {k31 : Int32 → Int32 → Int32 → Wd → Option (Int32 × Wd)} {k54 : Int32 → Int32 → Int32 → Int32 → Wd → Option (Int32 × Wd)} (hO : Ok K cX7_mostOf RX7 6 rm_X7_mostOf) (hR : Rt K (some .int))   (hk31 : ∀ (x1 : Int32) (x2 : Int32) (x3 : Int32) (σ : Wd), Cm K 6 (0, 0) (k31 x1 x2 x3 σ) σ 31 [(0, .ref (K.G.A 102)), (1, .int x1), (2, .int x2), (3, .int x3)] []) (hk54 : ∀ (x1 : Int32) (x2 : Int32) (x3 : Int32) (x4 : Int32) (σ : Wd), Cm K 6 (0, 0) (k54 x1 x2 x3 x4 σ) σ 54 [(0, .ref (K.G.A 102)), (1, .int x1), (2, .int x2), (3, .int x3), (4, .int x4)] []) (x1 : Int32) (x2 : Int32) (x3 : Int32) (x4 : Int32) (σ : Wd)  : Cm K 6 (0, 0) (f_X7_mostOf_123 k31 k54 x1 x2 x3 x4 σ) σ 123 [(0, .ref (K.G.A 102)), (1, .int x1), (2, .int x2), (3, .int x3), (4, .int x4)] [] := by
  refine r_iinc hO rfl ci_m1 rfl rfl dX7_mostOf_123 ?_
  refine r_goto (tgt := 54) hO dX7_mostOf_126 (by decide) ?_
  exact r_jmp (hk54 x1 x2 x3 (x4 + (-1 : Int32)) σ) (lsub_c rfl (lsub_c rfl (lsub_c rfl (lsub_c rfl (lsub_c rfl lsub_n)))))
set_option maxRecDepth 20000 in
set_option maxHeartbeats 1000000 in
theorem b_X7_mostOf_66 {K : Kt}  {k31 : Int32 → Int32 → Int32 → Wd → Option (Int32 × Wd)} {k54 : Int32 → Int32 → Int32 → Int32 → Wd → Option (Int32 × Wd)} (hO : Ok K cX7_mostOf RX7 6 rm_X7_mostOf) (hR : Rt K (some .int))   (hk31 : ∀ (x1 : Int32) (x2 : Int32) (x3 : Int32) (σ : Wd), Cm K 6 (0, 0) (k31 x1 x2 x3 σ) σ 31 [(0, .ref (K.G.A 102)), (1, .int x1), (2, .int x2), (3, .int x3)] []) (hk54 : ∀ (x1 : Int32) (x2 : Int32) (x3 : Int32) (x4 : Int32) (σ : Wd), Cm K 6 (0, 0) (k54 x1 x2 x3 x4 σ) σ 54 [(0, .ref (K.G.A 102)), (1, .int x1), (2, .int x2), (3, .int x3), (4, .int x4)] []) : ∀ (n : Nat) (x1 : Int32) (x2 : Int32) (x3 : Int32) (x4 : Int32) (x5 : Int32) (σ : Wd) , Cm K 6 (0, 0) (f_X7_mostOf_66 k31 k54 n x1 x2 x3 x4 x5 σ) σ 66 [(0, .ref (K.G.A 102)), (1, .int x1), (2, .int x2), (3, .int x3), (4, .int x4), (5, .int x5)] [] := by
  intro n
  induction n with
  | zero => intro x1 x2 x3 x4 x5 σ ; exact r_none
  | succ n ih =>
    intro x1 x2 x3 x4 x5 σ 
    refine r_iload hO (d := dX7_mostOf_66) rfl ?_
    refine r_iload hO (d := dX7_mostOf_68) rfl ?_
    refine r_icmp_gt (tgt := 123) hO dX7_mostOf_70 (by decide) ?_ ?_
    · exact r_jmp (b_X7_mostOf_123 hO hR hk31 hk54 x1 x2 x3 x4 σ) (lsub_c rfl (lsub_c rfl (lsub_c rfl (lsub_c rfl (lsub_c rfl lsub_n)))))
    · refine r_iload hO (d := dX7_mostOf_73) rfl ?_
      refine r_aload_n (i := 0) hO rfl rfl dX7_mostOf_75 ?_
      refine r_iload_n (i := 3) hO rfl rfl dX7_mostOf_76 ?_
      refine k_X7_depth hO a_644 rfl ⟨rfl, rfl, Nat.le_refl _, Nat.le_refl _⟩ dX7_mostOf_77 ?_
      intro r1 σ2
      refine r_icmp_gt (tgt := 123) hO dX7_mostOf_80 (by decide) ?_ ?_
      · exact r_jmp (b_X7_mostOf_123 hO hR hk31 hk54 x1 x2 x3 x4 σ2) (lsub_c rfl (lsub_c rfl (lsub_c rfl (lsub_c rfl (lsub_c rfl lsub_n)))))
      · refine r_aload_n (i := 0) hO rfl rfl dX7_mostOf_83 ?_
        refine gX7_66 hO dX7_mostOf_84 ?_
        refine r_iload hO (d := dX7_mostOf_87) rfl ?_
        refine r_zald hO s_119 dX7_mostOf_89 ?_
        refine r_if_ne (tgt := 123) hO dX7_mostOf_90 (by decide) ?_ ?_
        · refine r_aload_n (i := 0) hO rfl rfl dX7_mostOf_93 ?_
          refine gX7_66 hO dX7_mostOf_94 ?_
          refine r_iload hO (d := dX7_mostOf_97) rfl ?_
          refine r_aload_n (i := 0) hO rfl rfl dX7_mostOf_99 ?_
          refine gX7_66 hO dX7_mostOf_100 ?_
          refine r_iload hO (d := dX7_mostOf_103) rfl ?_
          refine r_iload hO (d := dX7_mostOf_105) rfl ?_
          refine r_isub hO dX7_mostOf_107 ?_
          refine r_zald hO s_119 dX7_mostOf_108 ?_
          refine r_zast hO s_119 dX7_mostOf_109 ?_
          refine r_nmW fun σ3 => ?_
          refine r_iload hO (d := dX7_mostOf_110) rfl ?_
          refine r_aload_n (i := 0) hO rfl rfl dX7_mostOf_112 ?_
          refine r_iload_n (i := 3) hO rfl rfl dX7_mostOf_113 ?_
          refine k_X7_lot hO a_643 rfl ⟨rfl, rfl, Nat.le_refl _, Nat.le_refl _⟩ dX7_mostOf_114 ?_
          intro r4 σ5
          refine r_iadd hO dX7_mostOf_117 ?_
          refine r_istore hO rfl rfl dX7_mostOf_118 ?_
          refine r_goto (tgt := 66) hO dX7_mostOf_120 (by decide) ?_
          exact r_jmp (ih x1 x2 x3 x4 (x5 + r4) σ5) (lsub_c rfl (lsub_c rfl (lsub_c rfl (lsub_c rfl (lsub_c rfl (lsub_c rfl lsub_n))))))
        · exact r_jmp (b_X7_mostOf_123 hO hR hk31 hk54 x1 x2 x3 x4 σ2) (lsub_c rfl (lsub_c rfl (lsub_c rfl (lsub_c rfl (lsub_c rfl lsub_n)))))
set_option maxRecDepth 20000 in
set_option maxHeartbeats 1000000 in
theorem b_X7_mostOf_129 {K : Kt}  {k31 : Int32 → Int32 → Int32 → Wd → Option (Int32 × Wd)} (hO : Ok K cX7_mostOf RX7 6 rm_X7_mostOf) (hR : Rt K (some .int))   (hk31 : ∀ (x1 : Int32) (x2 : Int32) (x3 : Int32) (σ : Wd), Cm K 6 (0, 0) (k31 x1 x2 x3 σ) σ 31 [(0, .ref (K.G.A 102)), (1, .int x1), (2, .int x2), (3, .int x3)] []) (x1 : Int32) (x2 : Int32) (x3 : Int32) (σ : Wd)  : Cm K 6 (0, 0) (f_X7_mostOf_129 k31 x1 x2 x3 σ) σ 129 [(0, .ref (K.G.A 102)), (1, .int x1), (2, .int x2), (3, .int x3)] [] := by
  refine r_iinc hO rfl ci_1 rfl rfl dX7_mostOf_129 ?_
  refine r_goto (tgt := 31) hO dX7_mostOf_132 (by decide) ?_
  exact r_jmp (hk31 x1 x2 (x3 + (1 : Int32)) σ) (lsub_c rfl (lsub_c rfl (lsub_c rfl (lsub_c rfl lsub_n))))
set_option maxRecDepth 20000 in
set_option maxHeartbeats 1000000 in
theorem b_X7_mostOf_54 {K : Kt}  {k31 : Int32 → Int32 → Int32 → Wd → Option (Int32 × Wd)} (hO : Ok K cX7_mostOf RX7 6 rm_X7_mostOf) (hR : Rt K (some .int))   (hk31 : ∀ (x1 : Int32) (x2 : Int32) (x3 : Int32) (σ : Wd), Cm K 6 (0, 0) (k31 x1 x2 x3 σ) σ 31 [(0, .ref (K.G.A 102)), (1, .int x1), (2, .int x2), (3, .int x3)] []) : ∀ (n : Nat) (x1 : Int32) (x2 : Int32) (x3 : Int32) (x4 : Int32) (σ : Wd) , Cm K 6 (0, 0) (f_X7_mostOf_54 k31 n x1 x2 x3 x4 σ) σ 54 [(0, .ref (K.G.A 102)), (1, .int x1), (2, .int x2), (3, .int x3), (4, .int x4)] [] := by
  intro n
  induction n with
  | zero => intro x1 x2 x3 x4 σ ; exact r_none
  | succ n ih =>
    intro x1 x2 x3 x4 σ 
    refine r_iload hO (d := dX7_mostOf_54) rfl ?_
    refine r_if_le (tgt := 129) hO dX7_mostOf_56 (by decide) ?_ ?_
    · exact r_jmp (b_X7_mostOf_129 hO hR hk31 x1 x2 x3 σ) (lsub_c rfl (lsub_c rfl (lsub_c rfl (lsub_c rfl lsub_n))))
    · refine r_aload_n (i := 0) hO rfl rfl dX7_mostOf_59 ?_
      refine r_iload_n (i := 3) hO rfl rfl dX7_mostOf_60 ?_
      refine k_X7_lot hO a_643 rfl ⟨rfl, rfl, Nat.le_refl _, Nat.le_refl _⟩ dX7_mostOf_61 ?_
      intro r1 σ2
      refine r_istore hO rfl rfl dX7_mostOf_64 ?_
      exact r_jmp (b_X7_mostOf_66 hO hR hk31 ih FU x1 x2 x3 x4 r1 σ2) (lsub_c rfl (lsub_c rfl (lsub_c rfl (lsub_c rfl (lsub_c rfl (lsub_c rfl lsub_n))))))
set_option maxRecDepth 20000 in
set_option maxHeartbeats 1000000 in
theorem b_X7_mostOf_137 {K : Kt}   (hO : Ok K cX7_mostOf RX7 6 rm_X7_mostOf) (hR : Rt K (some .int))   : ∀ (n : Nat) (x3 : Int32) (σ : Wd) , Cm K 6 (0, 0) (f_X7_mostOf_137  n x3 σ) σ 137 [(0, .ref (K.G.A 102)), (3, .int x3)] [] := by
  intro n
  induction n with
  | zero => intro x3 σ ; exact r_none
  | succ n ih =>
    intro x3 σ 
    refine r_aload_n (i := 0) hO rfl rfl dX7_mostOf_137 ?_
    refine gX7_66 hO dX7_mostOf_138 ?_
    refine r_iload_n (i := 3) hO rfl rfl dX7_mostOf_141 ?_
    refine r_zald hO s_119 dX7_mostOf_142 ?_
    refine r_if_ne (tgt := 152) hO dX7_mostOf_143 (by decide) ?_ ?_
    · refine r_iinc hO rfl ci_m1 rfl rfl dX7_mostOf_146 ?_
      refine r_goto (tgt := 137) hO dX7_mostOf_149 (by decide) ?_
      exact r_jmp (ih (x3 + (-1 : Int32)) σ) (lsub_c rfl (lsub_c rfl lsub_n))
    · refine r_iload_n (i := 3) hO rfl rfl dX7_mostOf_152 ?_
      exact r_iret hO hR dX7_mostOf_153
set_option maxRecDepth 20000 in
set_option maxHeartbeats 1000000 in
theorem b_X7_mostOf_31 {K : Kt}   (hO : Ok K cX7_mostOf RX7 6 rm_X7_mostOf) (hR : Rt K (some .int))   : ∀ (n : Nat) (x1 : Int32) (x2 : Int32) (x3 : Int32) (σ : Wd) , Cm K 6 (0, 0) (f_X7_mostOf_31  n x1 x2 x3 σ) σ 31 [(0, .ref (K.G.A 102)), (1, .int x1), (2, .int x2), (3, .int x3)] [] := by
  intro n
  induction n with
  | zero => intro x1 x2 x3 σ ; exact r_none
  | succ n ih =>
    intro x1 x2 x3 σ 
    refine r_iload_n (i := 3) hO rfl rfl dX7_mostOf_31 ?_
    refine r_aload_n (i := 0) hO rfl rfl dX7_mostOf_32 ?_
    refine gX7_235 hO dX7_mostOf_33 ?_
    refine r_icmp_ge (tgt := 135) hO dX7_mostOf_36 (by decide) ?_ ?_
    · refine r_iload_n (i := 2) hO rfl rfl dX7_mostOf_135 ?_
      refine r_istore_n (i := 3) hO rfl rfl rfl dX7_mostOf_136 ?_
      exact r_jmp (b_X7_mostOf_137 hO hR FU x2 σ) (lsub_c rfl (lsub_c rfl lsub_n))
    · refine r_iload_n (i := 1) hO rfl rfl dX7_mostOf_39 ?_
      refine r_iload_n (i := 3) hO rfl rfl dX7_mostOf_40 ?_
      refine r_ishr hO dX7_mostOf_41 ?_
      refine r_iconst hO ci_1 dX7_mostOf_42 ?_
      refine r_iand hO dX7_mostOf_43 ?_
      refine r_if_ne (tgt := 50) hO dX7_mostOf_44 (by decide) ?_ ?_
      · refine r_goto (tgt := 129) hO dX7_mostOf_47 (by decide) ?_
        exact r_jmp (b_X7_mostOf_129 hO hR ih x1 x2 x3 σ) (lsub_c rfl (lsub_c rfl (lsub_c rfl (lsub_c rfl lsub_n))))
      · refine r_bipush hO bi_120 dX7_mostOf_50 ?_
        refine r_istore hO rfl rfl dX7_mostOf_52 ?_
        exact r_jmp (b_X7_mostOf_54 hO hR ih FU x1 x2 x3 (120 : Int32) σ) (lsub_c rfl (lsub_c rfl (lsub_c rfl (lsub_c rfl (lsub_c rfl lsub_n)))))
set_option maxRecDepth 20000 in
set_option maxHeartbeats 1000000 in
theorem b_X7_mostOf_2 {K : Kt}   (hO : Ok K cX7_mostOf RX7 6 rm_X7_mostOf) (hR : Rt K (some .int))   : ∀ (n : Nat) (x1 : Int32) (x2 : Int32) (x3 : Int32) (σ : Wd) , Cm K 6 (0, 0) (f_X7_mostOf_2  n x1 x2 x3 σ) σ 2 [(0, .ref (K.G.A 102)), (1, .int x1), (2, .int x2), (3, .int x3)] [] := by
  intro n
  induction n with
  | zero => intro x1 x2 x3 σ ; exact r_none
  | succ n ih =>
    intro x1 x2 x3 σ 
    refine r_iload_n (i := 3) hO rfl rfl dX7_mostOf_2 ?_
    refine r_bipush hO bi_120 dX7_mostOf_3 ?_
    refine r_icmp_gt (tgt := 29) hO dX7_mostOf_5 (by decide) ?_ ?_
    · refine r_iconst hO ci_0 dX7_mostOf_29 ?_
      refine r_istore_n (i := 3) hO rfl rfl rfl dX7_mostOf_30 ?_
      exact r_jmp (b_X7_mostOf_31 hO hR FU x1 x2 (0 : Int32) σ) (lsub_c rfl (lsub_c rfl (lsub_c rfl (lsub_c rfl lsub_n))))
    · refine r_aload_n (i := 0) hO rfl rfl dX7_mostOf_8 ?_
      refine gX7_66 hO dX7_mostOf_9 ?_
      refine r_iload_n (i := 3) hO rfl rfl dX7_mostOf_12 ?_
      refine r_iload_n (i := 3) hO rfl rfl dX7_mostOf_13 ?_
      refine r_if_ne (tgt := 21) hO dX7_mostOf_14 (by decide) ?_ ?_
      · refine r_iconst hO ci_1 dX7_mostOf_17 ?_
        refine r_goto (tgt := 22) hO dX7_mostOf_18 (by decide) ?_
        exact r_jmp (b_X7_mostOf_22 hO hR ih x1 x2 x3 x3 (1 : Int32) σ) (lsub_c rfl (lsub_c rfl (lsub_c rfl (lsub_c rfl lsub_n))))
      · refine r_iconst hO ci_0 dX7_mostOf_21 ?_
        exact r_jmp (b_X7_mostOf_22 hO hR ih x1 x2 x3 x3 (0 : Int32) σ) (lsub_c rfl (lsub_c rfl (lsub_c rfl (lsub_c rfl lsub_n))))
set_option maxRecDepth 20000 in
set_option maxHeartbeats 1000000 in
theorem b_X7_mostOf {K : Kt}  (hO : Ok K cX7_mostOf RX7 6 rm_X7_mostOf) (hR : Rt K (some .int))  (a1 : Int32) (a2 : Int32) (σ : Wd) : Cm K 6 (0, 0) (f_X7_mostOf a1 a2 σ) σ 0 [(0, .ref (K.G.A 102)), (1, .int a1), (2, .int a2)] [] := by
  refine r_iconst hO ci_0 dX7_mostOf_0 ?_
  refine r_istore_n (i := 3) hO rfl rfl rfl dX7_mostOf_1 ?_
  exact r_jmp (b_X7_mostOf_2 hO hR FU a1 a2 (0 : Int32) σ) (lsub_c rfl (lsub_c rfl (lsub_c rfl (lsub_c rfl lsub_n))))
theorem c_X7_mostOf {l : Launch} {G : Gh}   (a1 : Int32) (a2 : Int32) (σ : Wd) : Con l G yX7_mostOf cX7_mostOf 6 (some .int) 4 88 [.ref (G.A 102), .int a1, .int a2] σ (f_X7_mostOf a1 a2 σ) := Con.of (plainFor_of_name (by decide)) rfl (Nat.le_of_ble_eq_true rfl) (fun K hl hG hO hR => by subst hl; subst hG; exact b_X7_mostOf hO hR  a1 a2 σ)
theorem cal_X7_mostOf : CalV yX7_mostOf cX7_mostOf 6 (some .int) 2 := ⟨a_731, a_732, a_733, a_464, by decide, by decide, by decide +kernel⟩
theorem k_X7_mostOf {K : Kt} {nL : Nat} {cs : Nat × Nat} {σ : Wd} {pc : Nat} {lv : List (Nat × Value)} {st : List Value} {cc : ByteArray} {own : String} {rm : Room} {index : Nat} {g : Int32 → Wd → Option (Int32 × Wd)} {a1 : Int32} {a2 : Int32} (hO : Ok K cc own nL rm)  (hl : Cond.methodLink own index yX7_mostOf ∈ gtb) (hcat : Nat.ble ((st.map fun v => v.category).sum) 8 = true) (hR : RoomOk rm cs 4 88 6) (d : decode cc pc = .ok (.invokevirtual index, 3)) (kk : ∀ (r : Int32) (σ : Wd), Cm K nL cs (g r σ) σ (pc + 3) lv (.int r :: st)) : Cm K nL cs (bd (f_X7_mostOf a1 a2 σ) g) σ pc lv (.int a2 :: .int a1 :: .ref (K.G.A 102) :: st) := r_cVi hO (c_X7_mostOf  a1 a2 σ) cal_X7_mostOf hl rfl (by decide) ent_X7 rfl rfl hcat hR d kk
/-! OrderSplitModel.fewest -/
def f_X7_fewest_108  (k42 : Int32 → Int32 → Int32 → Int32 → Wd → Option (Int32 × Wd)) (x1 : Int32) (x3 : Int32) (x4 : Int32) (x5 : Int32) (σ : Wd) : Option (Int32 × Wd) := (k42 x1 x3 x4 (x5 + (1 : Int32)) σ)
def f_X7_fewest_59  (k42 : Int32 → Int32 → Int32 → Int32 → Wd → Option (Int32 × Wd)) : Nat → Int32 → Int32 → Int32 → Int32 → Int32 → Int32 → Wd → Option (Int32 × Wd)
  | 0 => fun _ _ _ _ _ _ _ => none
  | n + 1 => fun x1 x3 x4 x5 x6 x7 σ => if (σ.1 102 14) ≤ x7 then (if x4 ≤ x6 then (f_X7_fewest_108 k42 x1 x3 x4 x5 σ) else (bd (f_X7_mostOf x5 x1 σ) fun r1 σ2 => if r1 = x3 then (f_X7_fewest_108 k42 x1 x3 x6 x5 σ2) else (f_X7_fewest_108 k42 x1 x3 x4 x5 σ2))) else (f_X7_fewest_59 k42 n x1 x3 x4 x5 (x6 + ((x5 >>> (x7 &&& 31)) &&& (1 : Int32))) (x7 + (1 : Int32)) σ)
def f_X7_fewest_42   : Nat → Int32 → Int32 → Int32 → Int32 → Wd → Option (Int32 × Wd)
  | 0 => fun _ _ _ _ _ => none
  | n + 1 => fun x1 x3 x4 x5 σ => if ((1 : Int32) <<< ((σ.1 102 14) &&& 31)) ≤ x5 then (bd (f_X7_good x4 σ) fun r1 σ2 => some (r1, σ2)) else (f_X7_fewest_59 (f_X7_fewest_42 n) FU x1 x3 x4 x5 (0 : Int32) (0 : Int32) σ)
def f_X7_fewest (a1 : Int32) (σ : Wd) : Option (Int32 × Wd) := nmW (wi σ 102 0 (0 : Int32)) fun σ1 => bd (f_X7_refusesQ (1 : Int32) a1 σ1) fun r2 σ3 => if r2 ≤ 0 then (bd (f_X7_mostOf (((1 : Int32) <<< ((σ3.1 102 14) &&& 31)) - (1 : Int32)) a1 σ3) fun r4 σ5 => (f_X7_fewest_42 FU a1 r4 (5 : Int32) (0 : Int32) σ5)) else (bd (f_X7_refused r2 σ3) fun r6 σ7 => some (r6, σ7))
set_option maxRecDepth 20000 in
set_option maxHeartbeats 1000000 in
theorem b_X7_fewest_108 {K : Kt}  {k42 : Int32 → Int32 → Int32 → Int32 → Wd → Option (Int32 × Wd)} (hO : Ok K cX7_fewest RX7 8 rm_X7_fewest) (hR : Rt K (some .int))   (hk42 : ∀ (x1 : Int32) (x3 : Int32) (x4 : Int32) (x5 : Int32) (σ : Wd), Cm K 8 (0, 0) (k42 x1 x3 x4 x5 σ) σ 42 [(0, .ref (K.G.A 102)), (1, .int x1), (3, .int x3), (4, .int x4), (5, .int x5)] []) (x1 : Int32) (x3 : Int32) (x4 : Int32) (x5 : Int32) (σ : Wd)  : Cm K 8 (0, 0) (f_X7_fewest_108 k42 x1 x3 x4 x5 σ) σ 108 [(0, .ref (K.G.A 102)), (1, .int x1), (3, .int x3), (4, .int x4), (5, .int x5)] [] := by
  refine r_iinc hO rfl ci_1 rfl rfl dX7_fewest_108 ?_
  refine r_goto (tgt := 42) hO dX7_fewest_111 (by decide) ?_
  exact r_jmp (hk42 x1 x3 x4 (x5 + (1 : Int32)) σ) (lsub_c rfl (lsub_c rfl (lsub_c rfl (lsub_c rfl (lsub_c rfl lsub_n)))))
set_option maxRecDepth 20000 in
set_option maxHeartbeats 1000000 in
theorem b_X7_fewest_59 {K : Kt}  {k42 : Int32 → Int32 → Int32 → Int32 → Wd → Option (Int32 × Wd)} (hO : Ok K cX7_fewest RX7 8 rm_X7_fewest) (hR : Rt K (some .int))   (hk42 : ∀ (x1 : Int32) (x3 : Int32) (x4 : Int32) (x5 : Int32) (σ : Wd), Cm K 8 (0, 0) (k42 x1 x3 x4 x5 σ) σ 42 [(0, .ref (K.G.A 102)), (1, .int x1), (3, .int x3), (4, .int x4), (5, .int x5)] []) : ∀ (n : Nat) (x1 : Int32) (x3 : Int32) (x4 : Int32) (x5 : Int32) (x6 : Int32) (x7 : Int32) (σ : Wd) , Cm K 8 (0, 0) (f_X7_fewest_59 k42 n x1 x3 x4 x5 x6 x7 σ) σ 59 [(0, .ref (K.G.A 102)), (1, .int x1), (3, .int x3), (4, .int x4), (5, .int x5), (6, .int x6), (7, .int x7)] [] := by
  intro n
  induction n with
  | zero => intro x1 x3 x4 x5 x6 x7 σ ; exact r_none
  | succ n ih =>
    intro x1 x3 x4 x5 x6 x7 σ 
    refine r_iload hO (d := dX7_fewest_59) rfl ?_
    refine r_aload_n (i := 0) hO rfl rfl dX7_fewest_61 ?_
    refine gX7_235 hO dX7_fewest_62 ?_
    refine r_icmp_ge (tgt := 86) hO dX7_fewest_65 (by decide) ?_ ?_
    · refine r_iload hO (d := dX7_fewest_86) rfl ?_
      refine r_iload hO (d := dX7_fewest_88) rfl ?_
      refine r_icmp_ge (tgt := 108) hO dX7_fewest_90 (by decide) ?_ ?_
      · exact r_jmp (b_X7_fewest_108 hO hR hk42 x1 x3 x4 x5 σ) (lsub_c rfl (lsub_c rfl (lsub_c rfl (lsub_c rfl (lsub_c rfl lsub_n)))))
      · refine r_aload_n (i := 0) hO rfl rfl dX7_fewest_93 ?_
        refine r_iload hO (d := dX7_fewest_94) rfl ?_
        refine r_iload_n (i := 1) hO rfl rfl dX7_fewest_96 ?_
        refine k_X7_mostOf hO a_734 rfl ⟨rfl, rfl, Nat.le_refl _, Nat.le_refl _⟩ dX7_fewest_97 ?_
        intro r1 σ2
        refine r_iload_n (i := 3) hO rfl rfl dX7_fewest_100 ?_
        refine r_icmp_ne (tgt := 108) hO dX7_fewest_101 (by decide) ?_ ?_
        · refine r_iload hO (d := dX7_fewest_104) rfl ?_
          refine r_istore hO rfl rfl dX7_fewest_106 ?_
          exact r_jmp (b_X7_fewest_108 hO hR hk42 x1 x3 x6 x5 σ2) (lsub_c rfl (lsub_c rfl (lsub_c rfl (lsub_c rfl (lsub_c rfl lsub_n)))))
        · exact r_jmp (b_X7_fewest_108 hO hR hk42 x1 x3 x4 x5 σ2) (lsub_c rfl (lsub_c rfl (lsub_c rfl (lsub_c rfl (lsub_c rfl lsub_n)))))
    · refine r_iload hO (d := dX7_fewest_68) rfl ?_
      refine r_iload hO (d := dX7_fewest_70) rfl ?_
      refine r_iload hO (d := dX7_fewest_72) rfl ?_
      refine r_ishr hO dX7_fewest_74 ?_
      refine r_iconst hO ci_1 dX7_fewest_75 ?_
      refine r_iand hO dX7_fewest_76 ?_
      refine r_iadd hO dX7_fewest_77 ?_
      refine r_istore hO rfl rfl dX7_fewest_78 ?_
      refine r_iinc hO rfl ci_1 rfl rfl dX7_fewest_80 ?_
      refine r_goto (tgt := 59) hO dX7_fewest_83 (by decide) ?_
      exact r_jmp (ih x1 x3 x4 x5 (x6 + ((x5 >>> (x7 &&& 31)) &&& (1 : Int32))) (x7 + (1 : Int32)) σ) (lsub_c rfl (lsub_c rfl (lsub_c rfl (lsub_c rfl (lsub_c rfl (lsub_c rfl (lsub_c rfl lsub_n)))))))
set_option maxRecDepth 20000 in
set_option maxHeartbeats 1000000 in
theorem b_X7_fewest_42 {K : Kt}   (hO : Ok K cX7_fewest RX7 8 rm_X7_fewest) (hR : Rt K (some .int))   : ∀ (n : Nat) (x1 : Int32) (x3 : Int32) (x4 : Int32) (x5 : Int32) (σ : Wd) , Cm K 8 (0, 0) (f_X7_fewest_42  n x1 x3 x4 x5 σ) σ 42 [(0, .ref (K.G.A 102)), (1, .int x1), (3, .int x3), (4, .int x4), (5, .int x5)] [] := by
  intro n
  induction n with
  | zero => intro x1 x3 x4 x5 σ ; exact r_none
  | succ n ih =>
    intro x1 x3 x4 x5 σ 
    refine r_iload hO (d := dX7_fewest_42) rfl ?_
    refine r_iconst hO ci_1 dX7_fewest_44 ?_
    refine r_aload_n (i := 0) hO rfl rfl dX7_fewest_45 ?_
    refine gX7_235 hO dX7_fewest_46 ?_
    refine r_ishl hO dX7_fewest_49 ?_
    refine r_icmp_ge (tgt := 114) hO dX7_fewest_50 (by decide) ?_ ?_
    · refine r_aload_n (i := 0) hO rfl rfl dX7_fewest_114 ?_
      refine r_iload hO (d := dX7_fewest_115) rfl ?_
      refine k_X7_good hO a_592 rfl ⟨rfl, rfl, Nat.le_refl _, Nat.le_refl _⟩ dX7_fewest_117 ?_
      intro r1 σ2
      exact r_iret hO hR dX7_fewest_120
    · refine r_iconst hO ci_0 dX7_fewest_53 ?_
      refine r_istore hO rfl rfl dX7_fewest_54 ?_
      refine r_iconst hO ci_0 dX7_fewest_56 ?_
      refine r_istore hO rfl rfl dX7_fewest_57 ?_
      exact r_jmp (b_X7_fewest_59 hO hR ih FU x1 x3 x4 x5 (0 : Int32) (0 : Int32) σ) (lsub_c rfl (lsub_c rfl (lsub_c rfl (lsub_c rfl (lsub_c rfl (lsub_c rfl (lsub_c rfl lsub_n)))))))
set_option maxRecDepth 20000 in
set_option maxHeartbeats 1000000 in
theorem b_X7_fewest {K : Kt}  (hO : Ok K cX7_fewest RX7 8 rm_X7_fewest) (hR : Rt K (some .int))  (a1 : Int32) (σ : Wd) : Cm K 8 (0, 0) (f_X7_fewest a1 σ) σ 0 [(0, .ref (K.G.A 102)), (1, .int a1)] [] := by
  refine r_aload_n (i := 0) hO rfl rfl dX7_fewest_0 ?_
  refine r_iconst hO ci_0 dX7_fewest_1 ?_
  refine pX7_70 hO dX7_fewest_2 ?_
  refine r_nmW fun σ1 => ?_
  refine r_aload_n (i := 0) hO rfl rfl dX7_fewest_5 ?_
  refine r_iconst hO ci_1 dX7_fewest_6 ?_
  refine r_iload_n (i := 1) hO rfl rfl dX7_fewest_7 ?_
  refine k_X7_refusesQ hO a_685 rfl ⟨rfl, rfl, Nat.le_refl _, Nat.le_refl _⟩ dX7_fewest_8 ?_
  intro r2 σ3
  refine r_istore_n (i := 2) hO rfl rfl rfl dX7_fewest_11 ?_
  refine r_iload_n (i := 2) hO rfl rfl dX7_fewest_12 ?_
  refine r_if_le (tgt := 22) hO dX7_fewest_13 (by decide) ?_ ?_
  · refine r_aload_n (i := 0) hO rfl rfl dX7_fewest_22 ?_
    refine r_iconst hO ci_1 dX7_fewest_23 ?_
    refine r_aload_n (i := 0) hO rfl rfl dX7_fewest_24 ?_
    refine gX7_235 hO dX7_fewest_25 ?_
    refine r_ishl hO dX7_fewest_28 ?_
    refine r_iconst hO ci_1 dX7_fewest_29 ?_
    refine r_isub hO dX7_fewest_30 ?_
    refine r_iload_n (i := 1) hO rfl rfl dX7_fewest_31 ?_
    refine k_X7_mostOf hO a_734 rfl ⟨rfl, rfl, Nat.le_refl _, Nat.le_refl _⟩ dX7_fewest_32 ?_
    intro r4 σ5
    refine r_istore_n (i := 3) hO rfl rfl rfl dX7_fewest_35 ?_
    refine r_iconst hO ci_5 dX7_fewest_36 ?_
    refine r_istore hO rfl rfl dX7_fewest_37 ?_
    refine r_iconst hO ci_0 dX7_fewest_39 ?_
    refine r_istore hO rfl rfl dX7_fewest_40 ?_
    exact r_jmp (b_X7_fewest_42 hO hR FU a1 r4 (5 : Int32) (0 : Int32) σ5) (lsub_c rfl (lsub_c rfl (lsub_c rfl (lsub_c rfl (lsub_c rfl lsub_n)))))
  · refine r_aload_n (i := 0) hO rfl rfl dX7_fewest_16 ?_
    refine r_iload_n (i := 2) hO rfl rfl dX7_fewest_17 ?_
    refine k_X7_refused hO a_465 rfl ⟨rfl, rfl, Nat.le_refl _, Nat.le_refl _⟩ dX7_fewest_18 ?_
    intro r6 σ7
    exact r_iret hO hR dX7_fewest_21
theorem c_X7_fewest {l : Launch} {G : Gh}   (a1 : Int32) (σ : Wd) : Con l G yX7_fewest cX7_fewest 8 (some .int) 5 113 [.ref (G.A 102), .int a1] σ (f_X7_fewest a1 σ) := Con.of (plainFor_of_name (by decide)) rfl (Nat.le_of_ble_eq_true rfl) (fun K hl hG hO hR => by subst hl; subst hG; exact b_X7_fewest hO hR  a1 σ)
theorem cal_X7_fewest : CalV yX7_fewest cX7_fewest 8 (some .int) 1 := ⟨a_735, a_736, a_737, a_464, by decide, by decide, by decide +kernel⟩
theorem k_X7_fewest {K : Kt} {nL : Nat} {cs : Nat × Nat} {σ : Wd} {pc : Nat} {lv : List (Nat × Value)} {st : List Value} {cc : ByteArray} {own : String} {rm : Room} {index : Nat} {g : Int32 → Wd → Option (Int32 × Wd)} {a1 : Int32} (hO : Ok K cc own nL rm)  (hl : Cond.methodLink own index yX7_fewest ∈ gtb) (hcat : Nat.ble ((st.map fun v => v.category).sum) 8 = true) (hR : RoomOk rm cs 5 113 8) (d : decode cc pc = .ok (.invokevirtual index, 3)) (kk : ∀ (r : Int32) (σ : Wd), Cm K nL cs (g r σ) σ (pc + 3) lv (.int r :: st)) : Cm K nL cs (bd (f_X7_fewest a1 σ) g) σ pc lv (.int a1 :: .ref (K.G.A 102) :: st) := r_cVi hO (c_X7_fewest  a1 σ) cal_X7_fewest hl rfl (by decide) ent_X7 rfl rfl hcat hR d kk
/-! OrderSplitModel.planUnits -/
def f_X7_planUnits_4   : Nat → Int32 → Int32 → Wd → Option (Int32 × Wd)
  | 0 => fun _ _ _ => none
  | n + 1 => fun x1 x2 σ => if (σ.1 102 14) ≤ x2 then (some (x1, σ)) else (gd (inb ((43 : Int32) + x2) 179) ((f_X7_planUnits_4 n (x1 + (σ.1 112 (ix ((43 : Int32) + x2)))) (x2 + (1 : Int32)) σ)))
def f_X7_planUnits  (σ : Wd) : Option (Int32 × Wd) := (f_X7_planUnits_4 FU (0 : Int32) (0 : Int32) σ)
set_option maxRecDepth 20000 in
set_option maxHeartbeats 1000000 in
theorem b_X7_planUnits_4 {K : Kt}   (hO : Ok K cX7_planUnits RX7 3 rm_X7_planUnits) (hR : Rt K (some .int))   : ∀ (n : Nat) (x1 : Int32) (x2 : Int32) (σ : Wd) , Cm K 3 (0, 0) (f_X7_planUnits_4  n x1 x2 σ) σ 4 [(0, .ref (K.G.A 102)), (1, .int x1), (2, .int x2)] [] := by
  intro n
  induction n with
  | zero => intro x1 x2 σ ; exact r_none
  | succ n ih =>
    intro x1 x2 σ 
    refine r_iload_n (i := 2) hO rfl rfl dX7_planUnits_4 ?_
    refine r_aload_n (i := 0) hO rfl rfl dX7_planUnits_5 ?_
    refine gX7_235 hO dX7_planUnits_6 ?_
    refine r_icmp_ge (tgt := 30) hO dX7_planUnits_9 (by decide) ?_ ?_
    · refine r_iload_n (i := 1) hO rfl rfl dX7_planUnits_30 ?_
      exact r_iret hO hR dX7_planUnits_31
    · refine r_iload_n (i := 1) hO rfl rfl dX7_planUnits_12 ?_
      refine r_aload_n (i := 0) hO rfl rfl dX7_planUnits_13 ?_
      refine gX7_44 hO dX7_planUnits_14 ?_
      refine r_bipush hO bi_43 dX7_planUnits_17 ?_
      refine r_iload_n (i := 2) hO rfl rfl dX7_planUnits_19 ?_
      refine r_iadd hO dX7_planUnits_20 ?_
      refine r_iald hO s_112 dX7_planUnits_21 ?_
      refine r_iadd hO dX7_planUnits_22 ?_
      refine r_istore_n (i := 1) hO rfl rfl rfl dX7_planUnits_23 ?_
      refine r_iinc hO rfl ci_1 rfl rfl dX7_planUnits_24 ?_
      refine r_goto (tgt := 4) hO dX7_planUnits_27 (by decide) ?_
      exact r_jmp (ih (x1 + (σ.1 112 (ix ((43 : Int32) + x2)))) (x2 + (1 : Int32)) σ) (lsub_c rfl (lsub_c rfl (lsub_c rfl lsub_n)))
set_option maxRecDepth 20000 in
set_option maxHeartbeats 1000000 in
theorem b_X7_planUnits {K : Kt}  (hO : Ok K cX7_planUnits RX7 3 rm_X7_planUnits) (hR : Rt K (some .int))   (σ : Wd) : Cm K 3 (0, 0) (f_X7_planUnits  σ) σ 0 [(0, .ref (K.G.A 102))] [] := by
  refine r_iconst hO ci_0 dX7_planUnits_0 ?_
  refine r_istore_n (i := 1) hO rfl rfl rfl dX7_planUnits_1 ?_
  refine r_iconst hO ci_0 dX7_planUnits_2 ?_
  refine r_istore_n (i := 2) hO rfl rfl rfl dX7_planUnits_3 ?_
  exact r_jmp (b_X7_planUnits_4 hO hR FU (0 : Int32) (0 : Int32) σ) (lsub_c rfl (lsub_c rfl (lsub_c rfl lsub_n)))
theorem c_X7_planUnits {l : Launch} {G : Gh}    (σ : Wd) : Con l G yX7_planUnits cX7_planUnits 3 (some .int) 0 0 [.ref (G.A 102)] σ (f_X7_planUnits  σ) := Con.of (plainFor_of_name (by decide)) rfl (Nat.le_of_ble_eq_true rfl) (fun K hl hG hO hR => by subst hl; subst hG; exact b_X7_planUnits hO hR   σ)
theorem cal_X7_planUnits : CalV yX7_planUnits cX7_planUnits 3 (some .int) 0 := ⟨a_738, a_739, a_740, a_464, by decide, by decide, by decide +kernel⟩
theorem k_X7_planUnits {K : Kt} {nL : Nat} {cs : Nat × Nat} {σ : Wd} {pc : Nat} {lv : List (Nat × Value)} {st : List Value} {cc : ByteArray} {own : String} {rm : Room} {index : Nat} {g : Int32 → Wd → Option (Int32 × Wd)}  (hO : Ok K cc own nL rm)  (hl : Cond.methodLink own index yX7_planUnits ∈ gtb) (hcat : Nat.ble ((st.map fun v => v.category).sum) 8 = true) (hR : RoomOk rm cs 0 0 3) (d : decode cc pc = .ok (.invokevirtual index, 3)) (kk : ∀ (r : Int32) (σ : Wd), Cm K nL cs (g r σ) σ (pc + 3) lv (.int r :: st)) : Cm K nL cs (bd (f_X7_planUnits  σ) g) σ pc lv (.ref (K.G.A 102) :: st) := r_cVi hO (c_X7_planUnits   σ) cal_X7_planUnits hl rfl (by decide) ent_X7 rfl rfl hcat hR d kk
/-! OrderSplitModel.canHavePlan -/
def f_X7_canHavePlan_54   (s0 : Int32) (σ : Wd) : Option (Int32 × Wd) := gd (isb s0) (some (s0, σ))
def f_X7_canHavePlan_2   : Nat → Int32 → Wd → Option (Int32 × Wd)
  | 0 => fun _ _ => none
  | n + 1 => fun x1 σ => if (σ.1 102 14) ≤ x1 then (bd (f_X7_planUnits σ) fun r1 σ2 => gd (inb (35 : Int32) 179) (if (σ2.1 112 (ix (35 : Int32))) < r1 then (f_X7_canHavePlan_54 (0 : Int32) σ2) else (f_X7_canHavePlan_54 (1 : Int32) σ2))) else (gd (inb ((43 : Int32) + x1) 179) (bd (f_X7_depth x1 σ) fun r3 σ4 => if (σ.1 112 (ix ((43 : Int32) + x1))) ≤ r3 then (f_X7_canHavePlan_2 n (x1 + (1 : Int32)) σ4) else (gd (isb (0 : Int32)) (some ((0 : Int32), σ4)))))
def f_X7_canHavePlan  (σ : Wd) : Option (Int32 × Wd) := (f_X7_canHavePlan_2 FU (0 : Int32) σ)
set_option maxRecDepth 20000 in
set_option maxHeartbeats 1000000 in
theorem b_X7_canHavePlan_54 {K : Kt}   (hO : Ok K cX7_canHavePlan RX7 2 rm_X7_canHavePlan) (hR : Rt K (some .boolean))   (s0 : Int32) (σ : Wd)  : Cm K 2 (0, 0) (f_X7_canHavePlan_54  s0 σ) σ 54 [] [.int s0] := by
  exact r_zret hO hR dX7_canHavePlan_54
set_option maxRecDepth 20000 in
set_option maxHeartbeats 1000000 in
theorem b_X7_canHavePlan_2 {K : Kt}   (hO : Ok K cX7_canHavePlan RX7 2 rm_X7_canHavePlan) (hR : Rt K (some .boolean))   : ∀ (n : Nat) (x1 : Int32) (σ : Wd) , Cm K 2 (0, 0) (f_X7_canHavePlan_2  n x1 σ) σ 2 [(0, .ref (K.G.A 102)), (1, .int x1)] [] := by
  intro n
  induction n with
  | zero => intro x1 σ ; exact r_none
  | succ n ih =>
    intro x1 σ 
    refine r_iload_n (i := 1) hO rfl rfl dX7_canHavePlan_2 ?_
    refine r_aload_n (i := 0) hO rfl rfl dX7_canHavePlan_3 ?_
    refine gX7_235 hO dX7_canHavePlan_4 ?_
    refine r_icmp_ge (tgt := 35) hO dX7_canHavePlan_7 (by decide) ?_ ?_
    · refine r_aload_n (i := 0) hO rfl rfl dX7_canHavePlan_35 ?_
      refine k_X7_planUnits hO a_741 rfl ⟨rfl, rfl, Nat.le_refl _, Nat.le_refl _⟩ dX7_canHavePlan_36 ?_
      intro r1 σ2
      refine r_aload_n (i := 0) hO rfl rfl dX7_canHavePlan_39 ?_
      refine gX7_44 hO dX7_canHavePlan_40 ?_
      refine r_bipush hO bi_35 dX7_canHavePlan_43 ?_
      refine r_iald hO s_112 dX7_canHavePlan_45 ?_
      refine r_icmp_gt (tgt := 53) hO dX7_canHavePlan_46 (by decide) ?_ ?_
      · refine r_iconst hO ci_0 dX7_canHavePlan_53 ?_
        exact r_jmp (b_X7_canHavePlan_54 hO hR (0 : Int32) σ2) lsub_n
      · refine r_iconst hO ci_1 dX7_canHavePlan_49 ?_
        refine r_goto (tgt := 54) hO dX7_canHavePlan_50 (by decide) ?_
        exact r_jmp (b_X7_canHavePlan_54 hO hR (1 : Int32) σ2) lsub_n
    · refine r_aload_n (i := 0) hO rfl rfl dX7_canHavePlan_10 ?_
      refine gX7_44 hO dX7_canHavePlan_11 ?_
      refine r_bipush hO bi_43 dX7_canHavePlan_14 ?_
      refine r_iload_n (i := 1) hO rfl rfl dX7_canHavePlan_16 ?_
      refine r_iadd hO dX7_canHavePlan_17 ?_
      refine r_iald hO s_112 dX7_canHavePlan_18 ?_
      refine r_aload_n (i := 0) hO rfl rfl dX7_canHavePlan_19 ?_
      refine r_iload_n (i := 1) hO rfl rfl dX7_canHavePlan_20 ?_
      refine k_X7_depth hO a_644 rfl ⟨rfl, rfl, Nat.le_refl _, Nat.le_refl _⟩ dX7_canHavePlan_21 ?_
      intro r3 σ4
      refine r_icmp_le (tgt := 29) hO dX7_canHavePlan_24 (by decide) ?_ ?_
      · refine r_iinc hO rfl ci_1 rfl rfl dX7_canHavePlan_29 ?_
        refine r_goto (tgt := 2) hO dX7_canHavePlan_32 (by decide) ?_
        exact r_jmp (ih (x1 + (1 : Int32)) σ4) (lsub_c rfl (lsub_c rfl lsub_n))
      · refine r_iconst hO ci_0 dX7_canHavePlan_27 ?_
        exact r_zret hO hR dX7_canHavePlan_28
set_option maxRecDepth 20000 in
set_option maxHeartbeats 1000000 in
theorem b_X7_canHavePlan {K : Kt}  (hO : Ok K cX7_canHavePlan RX7 2 rm_X7_canHavePlan) (hR : Rt K (some .boolean))   (σ : Wd) : Cm K 2 (0, 0) (f_X7_canHavePlan  σ) σ 0 [(0, .ref (K.G.A 102))] [] := by
  refine r_iconst hO ci_0 dX7_canHavePlan_0 ?_
  refine r_istore_n (i := 1) hO rfl rfl rfl dX7_canHavePlan_1 ?_
  exact r_jmp (b_X7_canHavePlan_2 hO hR FU (0 : Int32) σ) (lsub_c rfl (lsub_c rfl lsub_n))
theorem c_X7_canHavePlan {l : Launch} {G : Gh}    (σ : Wd) : Con l G yX7_canHavePlan cX7_canHavePlan 2 (some .boolean) 4 88 [.ref (G.A 102)] σ (f_X7_canHavePlan  σ) := Con.of (plainFor_of_name (by decide)) rfl (Nat.le_of_ble_eq_true rfl) (fun K hl hG hO hR => by subst hl; subst hG; exact b_X7_canHavePlan hO hR   σ)
theorem cal_X7_canHavePlan : CalV yX7_canHavePlan cX7_canHavePlan 2 (some .boolean) 0 := ⟨a_742, a_743, a_744, a_464, by decide, by decide, by decide +kernel⟩
theorem k_X7_canHavePlan {K : Kt} {nL : Nat} {cs : Nat × Nat} {σ : Wd} {pc : Nat} {lv : List (Nat × Value)} {st : List Value} {cc : ByteArray} {own : String} {rm : Room} {index : Nat} {g : Int32 → Wd → Option (Int32 × Wd)}  (hO : Ok K cc own nL rm)  (hl : Cond.methodLink own index yX7_canHavePlan ∈ gtb) (hcat : Nat.ble ((st.map fun v => v.category).sum) 8 = true) (hR : RoomOk rm cs 4 88 2) (d : decode cc pc = .ok (.invokevirtual index, 3)) (kk : ∀ (r : Int32) (σ : Wd), Cm K nL cs (g r σ) σ (pc + 3) lv (.int r :: st)) : Cm K nL cs (bd (f_X7_canHavePlan  σ) g) σ pc lv (.ref (K.G.A 102) :: st) := r_cVi hO (c_X7_canHavePlan   σ) cal_X7_canHavePlan hl rfl (by decide) ent_X7 rfl rfl hcat hR d kk
/-! OrderSplitModel.planCost -/
def f_X7_planCost_4   : Nat → Int32 → Int32 → Wd → Option (Int32 × Wd)
  | 0 => fun _ _ _ => none
  | n + 1 => fun x1 x2 σ => if (σ.1 102 14) ≤ x2 then (some (x1, σ)) else (gd (inb ((43 : Int32) + x2) 179) (bd (f_X7_costOf x2 (σ.1 112 (ix ((43 : Int32) + x2))) σ) fun r1 σ2 => (f_X7_planCost_4 n (x1 + r1) (x2 + (1 : Int32)) σ2)))
def f_X7_planCost  (σ : Wd) : Option (Int32 × Wd) := (f_X7_planCost_4 FU (0 : Int32) (0 : Int32) σ)
set_option maxRecDepth 20000 in
set_option maxHeartbeats 1000000 in
theorem b_X7_planCost_4 {K : Kt}   (hO : Ok K cX7_planCost RX7 3 rm_X7_planCost) (hR : Rt K (some .int))   : ∀ (n : Nat) (x1 : Int32) (x2 : Int32) (σ : Wd) , Cm K 3 (0, 0) (f_X7_planCost_4  n x1 x2 σ) σ 4 [(0, .ref (K.G.A 102)), (1, .int x1), (2, .int x2)] [] := by
  intro n
  induction n with
  | zero => intro x1 x2 σ ; exact r_none
  | succ n ih =>
    intro x1 x2 σ 
    refine r_iload_n (i := 2) hO rfl rfl dX7_planCost_4 ?_
    refine r_aload_n (i := 0) hO rfl rfl dX7_planCost_5 ?_
    refine gX7_235 hO dX7_planCost_6 ?_
    refine r_icmp_ge (tgt := 35) hO dX7_planCost_9 (by decide) ?_ ?_
    · refine r_iload_n (i := 1) hO rfl rfl dX7_planCost_35 ?_
      exact r_iret hO hR dX7_planCost_36
    · refine r_iload_n (i := 1) hO rfl rfl dX7_planCost_12 ?_
      refine r_aload_n (i := 0) hO rfl rfl dX7_planCost_13 ?_
      refine r_iload_n (i := 2) hO rfl rfl dX7_planCost_14 ?_
      refine r_aload_n (i := 0) hO rfl rfl dX7_planCost_15 ?_
      refine gX7_44 hO dX7_planCost_16 ?_
      refine r_bipush hO bi_43 dX7_planCost_19 ?_
      refine r_iload_n (i := 2) hO rfl rfl dX7_planCost_21 ?_
      refine r_iadd hO dX7_planCost_22 ?_
      refine r_iald hO s_112 dX7_planCost_23 ?_
      refine k_X7_costOf hO a_658 rfl ⟨rfl, rfl, Nat.le_refl _, Nat.le_refl _⟩ dX7_planCost_24 ?_
      intro r1 σ2
      refine r_iadd hO dX7_planCost_27 ?_
      refine r_istore_n (i := 1) hO rfl rfl rfl dX7_planCost_28 ?_
      refine r_iinc hO rfl ci_1 rfl rfl dX7_planCost_29 ?_
      refine r_goto (tgt := 4) hO dX7_planCost_32 (by decide) ?_
      exact r_jmp (ih (x1 + r1) (x2 + (1 : Int32)) σ2) (lsub_c rfl (lsub_c rfl (lsub_c rfl lsub_n)))
set_option maxRecDepth 20000 in
set_option maxHeartbeats 1000000 in
theorem b_X7_planCost {K : Kt}  (hO : Ok K cX7_planCost RX7 3 rm_X7_planCost) (hR : Rt K (some .int))   (σ : Wd) : Cm K 3 (0, 0) (f_X7_planCost  σ) σ 0 [(0, .ref (K.G.A 102))] [] := by
  refine r_iconst hO ci_0 dX7_planCost_0 ?_
  refine r_istore_n (i := 1) hO rfl rfl rfl dX7_planCost_1 ?_
  refine r_iconst hO ci_0 dX7_planCost_2 ?_
  refine r_istore_n (i := 2) hO rfl rfl rfl dX7_planCost_3 ?_
  exact r_jmp (b_X7_planCost_4 hO hR FU (0 : Int32) (0 : Int32) σ) (lsub_c rfl (lsub_c rfl (lsub_c rfl lsub_n)))
theorem c_X7_planCost {l : Launch} {G : Gh}    (σ : Wd) : Con l G yX7_planCost cX7_planCost 3 (some .int) 4 91 [.ref (G.A 102)] σ (f_X7_planCost  σ) := Con.of (plainFor_of_name (by decide)) rfl (Nat.le_of_ble_eq_true rfl) (fun K hl hG hO hR => by subst hl; subst hG; exact b_X7_planCost hO hR   σ)
theorem cal_X7_planCost : CalV yX7_planCost cX7_planCost 3 (some .int) 0 := ⟨a_745, a_746, a_747, a_464, by decide, by decide, by decide +kernel⟩
theorem k_X7_planCost {K : Kt} {nL : Nat} {cs : Nat × Nat} {σ : Wd} {pc : Nat} {lv : List (Nat × Value)} {st : List Value} {cc : ByteArray} {own : String} {rm : Room} {index : Nat} {g : Int32 → Wd → Option (Int32 × Wd)}  (hO : Ok K cc own nL rm)  (hl : Cond.methodLink own index yX7_planCost ∈ gtb) (hcat : Nat.ble ((st.map fun v => v.category).sum) 8 = true) (hR : RoomOk rm cs 4 91 3) (d : decode cc pc = .ok (.invokevirtual index, 3)) (kk : ∀ (r : Int32) (σ : Wd), Cm K nL cs (g r σ) σ (pc + 3) lv (.int r :: st)) : Cm K nL cs (bd (f_X7_planCost  σ) g) σ pc lv (.ref (K.G.A 102) :: st) := r_cVi hO (c_X7_planCost   σ) cal_X7_planCost hl rfl (by decide) ent_X7 rfl rfl hcat hR d kk
/-! OrderSplitModel.plan -/
def f_X7_plan_54    (σ : Wd) : Option (Int32 × Wd) := bd (f_X7_refused (2 : Int32) σ) fun r1 σ2 => some (r1, σ2)
def f_X7_plan (a1 : Int32) (a2 : Int32) (σ : Wd) : Option (Int32 × Wd) := nmW (wi σ 102 0 (0 : Int32)) fun σ1 => bd (f_X7_isVenue a1 σ1) fun r2 σ3 => if r2 = 0 then (bd (f_X7_refused (1 : Int32) σ3) fun r4 σ5 => some (r4, σ5)) else (bd (f_X7_canHave a1 a2 σ3) fun r6 σ7 => if r6 = 0 then (f_X7_plan_54 σ7) else (bd (f_X7_planUnits σ7) fun r8 σ9 => gd (inb ((43 : Int32) + a1) 179) (gd (inb (35 : Int32) 179) (if ((r8 - (σ9.1 112 (ix ((43 : Int32) + a1)))) + a2) ≤ (σ9.1 112 (ix (35 : Int32))) then (gd (inb (36 : Int32) 179) (if (σ9.1 112 (ix (36 : Int32))) = (1 : Int32) then (bd (f_X7_refused (5 : Int32) σ9) fun r10 σ11 => some (r10, σ11)) else (gd (inb ((43 : Int32) + a1) 179) (gd (inb ((43 : Int32) + a1) 179) (nmW (wi σ9 112 (ix ((43 : Int32) + a1)) a2) fun σ12 => bd (f_X7_good (σ9.1 112 (ix ((43 : Int32) + a1))) σ12) fun r13 σ14 => some (r13, σ14)))))) else (f_X7_plan_54 σ9)))))
set_option maxRecDepth 20000 in
set_option maxHeartbeats 1000000 in
theorem b_X7_plan_54 {K : Kt}   (hO : Ok K cX7_plan RX7 4 rm_X7_plan) (hR : Rt K (some .int))    (σ : Wd)  : Cm K 4 (0, 0) (f_X7_plan_54   σ) σ 54 [(0, .ref (K.G.A 102))] [] := by
  refine r_aload_n (i := 0) hO rfl rfl dX7_plan_54 ?_
  refine r_iconst hO ci_2 dX7_plan_55 ?_
  refine k_X7_refused hO a_465 rfl ⟨rfl, rfl, Nat.le_refl _, Nat.le_refl _⟩ dX7_plan_56 ?_
  intro r1 σ2
  exact r_iret hO hR dX7_plan_59
set_option maxRecDepth 20000 in
set_option maxHeartbeats 1000000 in
theorem b_X7_plan {K : Kt}  (hO : Ok K cX7_plan RX7 4 rm_X7_plan) (hR : Rt K (some .int))  (a1 : Int32) (a2 : Int32) (σ : Wd) : Cm K 4 (0, 0) (f_X7_plan a1 a2 σ) σ 0 [(0, .ref (K.G.A 102)), (1, .int a1), (2, .int a2)] [] := by
  refine r_aload_n (i := 0) hO rfl rfl dX7_plan_0 ?_
  refine r_iconst hO ci_0 dX7_plan_1 ?_
  refine pX7_70 hO dX7_plan_2 ?_
  refine r_nmW fun σ1 => ?_
  refine r_aload_n (i := 0) hO rfl rfl dX7_plan_5 ?_
  refine r_iload_n (i := 1) hO rfl rfl dX7_plan_6 ?_
  refine k_X7_isVenue hO a_641 rfl ⟨rfl, rfl, Nat.le_refl _, Nat.le_refl _⟩ dX7_plan_7 ?_
  intro r2 σ3
  refine r_if_ne (tgt := 19) hO dX7_plan_10 (by decide) ?_ ?_
  · refine r_aload_n (i := 0) hO rfl rfl dX7_plan_13 ?_
    refine r_iconst hO ci_1 dX7_plan_14 ?_
    refine k_X7_refused hO a_465 rfl ⟨rfl, rfl, Nat.le_refl _, Nat.le_refl _⟩ dX7_plan_15 ?_
    intro r4 σ5
    exact r_iret hO hR dX7_plan_18
  · refine r_aload_n (i := 0) hO rfl rfl dX7_plan_19 ?_
    refine r_iload_n (i := 1) hO rfl rfl dX7_plan_20 ?_
    refine r_iload_n (i := 2) hO rfl rfl dX7_plan_21 ?_
    refine k_X7_canHave hO a_657 rfl ⟨rfl, rfl, Nat.le_refl _, Nat.le_refl _⟩ dX7_plan_22 ?_
    intro r6 σ7
    refine r_if_eq (tgt := 54) hO dX7_plan_25 (by decide) ?_ ?_
    · exact r_jmp (b_X7_plan_54 hO hR σ7) (lsub_c rfl lsub_n)
    · refine r_aload_n (i := 0) hO rfl rfl dX7_plan_28 ?_
      refine k_X7_planUnits hO a_741 rfl ⟨rfl, rfl, Nat.le_refl _, Nat.le_refl _⟩ dX7_plan_29 ?_
      intro r8 σ9
      refine r_aload_n (i := 0) hO rfl rfl dX7_plan_32 ?_
      refine gX7_44 hO dX7_plan_33 ?_
      refine r_bipush hO bi_43 dX7_plan_36 ?_
      refine r_iload_n (i := 1) hO rfl rfl dX7_plan_38 ?_
      refine r_iadd hO dX7_plan_39 ?_
      refine r_iald hO s_112 dX7_plan_40 ?_
      refine r_isub hO dX7_plan_41 ?_
      refine r_iload_n (i := 2) hO rfl rfl dX7_plan_42 ?_
      refine r_iadd hO dX7_plan_43 ?_
      refine r_aload_n (i := 0) hO rfl rfl dX7_plan_44 ?_
      refine gX7_44 hO dX7_plan_45 ?_
      refine r_bipush hO bi_35 dX7_plan_48 ?_
      refine r_iald hO s_112 dX7_plan_50 ?_
      refine r_icmp_le (tgt := 60) hO dX7_plan_51 (by decide) ?_ ?_
      · refine r_aload_n (i := 0) hO rfl rfl dX7_plan_60 ?_
        refine gX7_44 hO dX7_plan_61 ?_
        refine r_bipush hO bi_36 dX7_plan_64 ?_
        refine r_iald hO s_112 dX7_plan_66 ?_
        refine r_iconst hO ci_1 dX7_plan_67 ?_
        refine r_icmp_ne (tgt := 77) hO dX7_plan_68 (by decide) ?_ ?_
        · refine r_aload_n (i := 0) hO rfl rfl dX7_plan_71 ?_
          refine r_iconst hO ci_5 dX7_plan_72 ?_
          refine k_X7_refused hO a_465 rfl ⟨rfl, rfl, Nat.le_refl _, Nat.le_refl _⟩ dX7_plan_73 ?_
          intro r10 σ11
          exact r_iret hO hR dX7_plan_76
        · refine r_aload_n (i := 0) hO rfl rfl dX7_plan_77 ?_
          refine gX7_44 hO dX7_plan_78 ?_
          refine r_bipush hO bi_43 dX7_plan_81 ?_
          refine r_iload_n (i := 1) hO rfl rfl dX7_plan_83 ?_
          refine r_iadd hO dX7_plan_84 ?_
          refine r_iald hO s_112 dX7_plan_85 ?_
          refine r_istore_n (i := 3) hO rfl rfl rfl dX7_plan_86 ?_
          refine r_aload_n (i := 0) hO rfl rfl dX7_plan_87 ?_
          refine gX7_44 hO dX7_plan_88 ?_
          refine r_bipush hO bi_43 dX7_plan_91 ?_
          refine r_iload_n (i := 1) hO rfl rfl dX7_plan_93 ?_
          refine r_iadd hO dX7_plan_94 ?_
          refine r_iload_n (i := 2) hO rfl rfl dX7_plan_95 ?_
          refine r_iast hO s_112 dX7_plan_96 ?_
          refine r_nmW fun σ12 => ?_
          refine r_aload_n (i := 0) hO rfl rfl dX7_plan_97 ?_
          refine r_iload_n (i := 3) hO rfl rfl dX7_plan_98 ?_
          refine k_X7_good hO a_592 rfl ⟨rfl, rfl, Nat.le_refl _, Nat.le_refl _⟩ dX7_plan_99 ?_
          intro r13 σ14
          exact r_iret hO hR dX7_plan_102
      · exact r_jmp (b_X7_plan_54 hO hR σ9) (lsub_c rfl lsub_n)
theorem c_X7_plan {l : Launch} {G : Gh}   (a1 : Int32) (a2 : Int32) (σ : Wd) : Con l G yX7_plan cX7_plan 4 (some .int) 5 110 [.ref (G.A 102), .int a1, .int a2] σ (f_X7_plan a1 a2 σ) := Con.of (plainFor_of_name (by decide)) rfl (Nat.le_of_ble_eq_true rfl) (fun K hl hG hO hR => by subst hl; subst hG; exact b_X7_plan hO hR  a1 a2 σ)
theorem cal_X7_plan : CalV yX7_plan cX7_plan 4 (some .int) 2 := ⟨a_748, a_749, a_750, a_464, by decide, by decide, by decide +kernel⟩
theorem k_X7_plan {K : Kt} {nL : Nat} {cs : Nat × Nat} {σ : Wd} {pc : Nat} {lv : List (Nat × Value)} {st : List Value} {cc : ByteArray} {own : String} {rm : Room} {index : Nat} {g : Int32 → Wd → Option (Int32 × Wd)} {a1 : Int32} {a2 : Int32} (hO : Ok K cc own nL rm)  (hl : Cond.methodLink own index yX7_plan ∈ gtb) (hcat : Nat.ble ((st.map fun v => v.category).sum) 8 = true) (hR : RoomOk rm cs 5 110 4) (d : decode cc pc = .ok (.invokevirtual index, 3)) (kk : ∀ (r : Int32) (σ : Wd), Cm K nL cs (g r σ) σ (pc + 3) lv (.int r :: st)) : Cm K nL cs (bd (f_X7_plan a1 a2 σ) g) σ pc lv (.int a2 :: .int a1 :: .ref (K.G.A 102) :: st) := r_cVi hO (c_X7_plan  a1 a2 σ) cal_X7_plan hl rfl (by decide) ent_X7 rfl rfl hcat hR d kk
/-! OrderSplitModel.planned -/
def f_X7_planned_21    (σ : Wd) : Option (Int32 × Wd) := bd (f_X7_refusedLow (1 : Int32) σ) fun r1 σ2 => some (r1, σ2)
def f_X7_planned (a1 : Int32) (σ : Wd) : Option (Int32 × Wd) := nmW (wi σ 102 0 (0 : Int32)) fun σ1 => if (σ1.1 102 21) = 0 then (f_X7_planned_21 σ1) else (bd (f_X7_in a1 (0 : Int32) (2 : Int32) σ1) fun r2 σ3 => if r2 = 0 then (f_X7_planned_21 σ3) else (bd (f_X7_canHavePlan σ3) fun r4 σ5 => if r4 = 0 then (bd (f_X7_refusedLow (5 : Int32) σ5) fun r6 σ7 => some (r6, σ7)) else (bd (f_X7_planUnits σ5) fun r8 σ9 => if a1 = 0 then (bd (f_X7_good r8 σ9) fun r10 σ11 => some (r10, σ11)) else (if a1 = (1 : Int32) then (bd (f_X7_planCost σ9) fun r12 σ13 => bd (f_X7_good r12 σ13) fun r14 σ15 => some (r14, σ15)) else (if r8 = 0 then (bd (f_X7_good (0 : Int32) σ9) fun r16 σ17 => some (r16, σ17)) else (bd (f_X7_laysBest r8 (-1 : Int32) σ9) fun _ σ18 => bd (f_X7_planCost σ18) fun r19 σ20 => bd (f_X7_good (r19 - (σ20.1 102 38)) σ20) fun r21 σ22 => some (r21, σ22)))))))
set_option maxRecDepth 20000 in
set_option maxHeartbeats 1000000 in
theorem b_X7_planned_21 {K : Kt}   (hO : Ok K cX7_planned RX7 3 rm_X7_planned) (hR : Rt K (some .int))    (σ : Wd)  : Cm K 3 (0, 0) (f_X7_planned_21   σ) σ 21 [(0, .ref (K.G.A 102))] [] := by
  refine r_aload_n (i := 0) hO rfl rfl dX7_planned_21 ?_
  refine r_iconst hO ci_1 dX7_planned_22 ?_
  refine k_X7_refusedLow hO a_642 rfl ⟨rfl, rfl, Nat.le_refl _, Nat.le_refl _⟩ dX7_planned_23 ?_
  intro r1 σ2
  exact r_iret hO hR dX7_planned_26
set_option maxRecDepth 20000 in
set_option maxHeartbeats 1000000 in
theorem b_X7_planned {K : Kt}  (hO : Ok K cX7_planned RX7 3 rm_X7_planned) (hR : Rt K (some .int))  (a1 : Int32) (σ : Wd) : Cm K 3 (0, 0) (f_X7_planned a1 σ) σ 0 [(0, .ref (K.G.A 102)), (1, .int a1)] [] := by
  refine r_aload_n (i := 0) hO rfl rfl dX7_planned_0 ?_
  refine r_iconst hO ci_0 dX7_planned_1 ?_
  refine pX7_70 hO dX7_planned_2 ?_
  refine r_nmW fun σ1 => ?_
  refine r_aload_n (i := 0) hO rfl rfl dX7_planned_5 ?_
  refine gX7_241 hO dX7_planned_6 ?_
  refine r_if_eq (tgt := 21) hO dX7_planned_9 (by decide) ?_ ?_
  · exact r_jmp (b_X7_planned_21 hO hR σ1) (lsub_c rfl lsub_n)
  · refine r_iload_n (i := 1) hO rfl rfl dX7_planned_12 ?_
    refine r_iconst hO ci_0 dX7_planned_13 ?_
    refine r_iconst hO ci_2 dX7_planned_14 ?_
    refine k_X7_in hO a_483 rfl ⟨rfl, rfl, Nat.le_refl _, Nat.le_refl _⟩ dX7_planned_15 ?_
    intro r2 σ3
    refine r_if_ne (tgt := 27) hO dX7_planned_18 (by decide) ?_ ?_
    · exact r_jmp (b_X7_planned_21 hO hR σ3) (lsub_c rfl lsub_n)
    · refine r_aload_n (i := 0) hO rfl rfl dX7_planned_27 ?_
      refine k_X7_canHavePlan hO a_751 rfl ⟨rfl, rfl, Nat.le_refl _, Nat.le_refl _⟩ dX7_planned_28 ?_
      intro r4 σ5
      refine r_if_ne (tgt := 40) hO dX7_planned_31 (by decide) ?_ ?_
      · refine r_aload_n (i := 0) hO rfl rfl dX7_planned_34 ?_
        refine r_iconst hO ci_5 dX7_planned_35 ?_
        refine k_X7_refusedLow hO a_642 rfl ⟨rfl, rfl, Nat.le_refl _, Nat.le_refl _⟩ dX7_planned_36 ?_
        intro r6 σ7
        exact r_iret hO hR dX7_planned_39
      · refine r_aload_n (i := 0) hO rfl rfl dX7_planned_40 ?_
        refine k_X7_planUnits hO a_741 rfl ⟨rfl, rfl, Nat.le_refl _, Nat.le_refl _⟩ dX7_planned_41 ?_
        intro r8 σ9
        refine r_istore_n (i := 2) hO rfl rfl rfl dX7_planned_44 ?_
        refine r_iload_n (i := 1) hO rfl rfl dX7_planned_45 ?_
        refine r_if_ne (tgt := 55) hO dX7_planned_46 (by decide) ?_ ?_
        · refine r_aload_n (i := 0) hO rfl rfl dX7_planned_49 ?_
          refine r_iload_n (i := 2) hO rfl rfl dX7_planned_50 ?_
          refine k_X7_good hO a_592 rfl ⟨rfl, rfl, Nat.le_refl _, Nat.le_refl _⟩ dX7_planned_51 ?_
          intro r10 σ11
          exact r_iret hO hR dX7_planned_54
        · refine r_iload_n (i := 1) hO rfl rfl dX7_planned_55 ?_
          refine r_iconst hO ci_1 dX7_planned_56 ?_
          refine r_icmp_ne (tgt := 69) hO dX7_planned_57 (by decide) ?_ ?_
          · refine r_aload_n (i := 0) hO rfl rfl dX7_planned_60 ?_
            refine r_aload_n (i := 0) hO rfl rfl dX7_planned_61 ?_
            refine k_X7_planCost hO a_752 rfl ⟨rfl, rfl, Nat.le_refl _, Nat.le_refl _⟩ dX7_planned_62 ?_
            intro r12 σ13
            refine k_X7_good hO a_592 rfl ⟨rfl, rfl, Nat.le_refl _, Nat.le_refl _⟩ dX7_planned_65 ?_
            intro r14 σ15
            exact r_iret hO hR dX7_planned_68
          · refine r_iload_n (i := 2) hO rfl rfl dX7_planned_69 ?_
            refine r_if_ne (tgt := 79) hO dX7_planned_70 (by decide) ?_ ?_
            · refine r_aload_n (i := 0) hO rfl rfl dX7_planned_73 ?_
              refine r_iconst hO ci_0 dX7_planned_74 ?_
              refine k_X7_good hO a_592 rfl ⟨rfl, rfl, Nat.le_refl _, Nat.le_refl _⟩ dX7_planned_75 ?_
              intro r16 σ17
              exact r_iret hO hR dX7_planned_78
            · refine r_aload_n (i := 0) hO rfl rfl dX7_planned_79 ?_
              refine r_iload_n (i := 2) hO rfl rfl dX7_planned_80 ?_
              refine r_iconst hO ci_m1 dX7_planned_81 ?_
              refine k_X7_laysBest hO a_686 rfl ⟨rfl, rfl, Nat.le_refl _, Nat.le_refl _⟩ dX7_planned_82 ?_
              intro _ σ18
              refine r_aload_n (i := 0) hO rfl rfl dX7_planned_85 ?_
              refine r_aload_n (i := 0) hO rfl rfl dX7_planned_86 ?_
              refine k_X7_planCost hO a_752 rfl ⟨rfl, rfl, Nat.le_refl _, Nat.le_refl _⟩ dX7_planned_87 ?_
              intro r19 σ20
              refine r_aload_n (i := 0) hO rfl rfl dX7_planned_90 ?_
              refine gX7_309 hO dX7_planned_91 ?_
              refine r_isub hO dX7_planned_94 ?_
              refine k_X7_good hO a_592 rfl ⟨rfl, rfl, Nat.le_refl _, Nat.le_refl _⟩ dX7_planned_95 ?_
              intro r21 σ22
              exact r_iret hO hR dX7_planned_98
theorem c_X7_planned {l : Launch} {G : Gh}   (a1 : Int32) (σ : Wd) : Con l G yX7_planned cX7_planned 3 (some .int) 7 163 [.ref (G.A 102), .int a1] σ (f_X7_planned a1 σ) := Con.of (plainFor_of_name (by decide)) rfl (Nat.le_of_ble_eq_true rfl) (fun K hl hG hO hR => by subst hl; subst hG; exact b_X7_planned hO hR  a1 σ)
theorem cal_X7_planned : CalV yX7_planned cX7_planned 3 (some .int) 1 := ⟨a_753, a_754, a_755, a_464, by decide, by decide, by decide +kernel⟩
theorem k_X7_planned {K : Kt} {nL : Nat} {cs : Nat × Nat} {σ : Wd} {pc : Nat} {lv : List (Nat × Value)} {st : List Value} {cc : ByteArray} {own : String} {rm : Room} {index : Nat} {g : Int32 → Wd → Option (Int32 × Wd)} {a1 : Int32} (hO : Ok K cc own nL rm)  (hl : Cond.methodLink own index yX7_planned ∈ gtb) (hcat : Nat.ble ((st.map fun v => v.category).sum) 8 = true) (hR : RoomOk rm cs 7 163 3) (d : decode cc pc = .ok (.invokevirtual index, 3)) (kk : ∀ (r : Int32) (σ : Wd), Cm K nL cs (g r σ) σ (pc + 3) lv (.int r :: st)) : Cm K nL cs (bd (f_X7_planned a1 σ) g) σ pc lv (.int a1 :: .ref (K.G.A 102) :: st) := r_cVi hO (c_X7_planned  a1 σ) cal_X7_planned hl rfl (by decide) ent_X7 rfl rfl hcat hR d kk
/-! OrderSplitModel.common -/
def f_X7_common_2   : Nat → Int32 → Int32 → Int32 → Wd → Option (Int32 × Wd)
  | 0 => fun _ _ _ _ => none
  | n + 1 => fun x0 x1 x2 σ => gd (!decide (x1 = 0)) (if (x2 % x1) = 0 then (some (x2, σ)) else (f_X7_common_2 n x0 x1 (x2 + x0) σ))
def f_X7_common (a0 : Int32) (a1 : Int32) (σ : Wd) : Option (Int32 × Wd) := (f_X7_common_2 FU a0 a1 a0 σ)
set_option maxRecDepth 20000 in
set_option maxHeartbeats 1000000 in
theorem b_X7_common_2 {K : Kt}   (hO : Ok K cX7_common RX7 3 rm_X7_common) (hR : Rt K (some .int))   : ∀ (n : Nat) (x0 : Int32) (x1 : Int32) (x2 : Int32) (σ : Wd) , Cm K 3 (0, 0) (f_X7_common_2  n x0 x1 x2 σ) σ 2 [(0, .int x0), (1, .int x1), (2, .int x2)] [] := by
  intro n
  induction n with
  | zero => intro x0 x1 x2 σ ; exact r_none
  | succ n ih =>
    intro x0 x1 x2 σ 
    refine r_iload_n (i := 2) hO rfl rfl dX7_common_2 ?_
    refine r_iload_n (i := 1) hO rfl rfl dX7_common_3 ?_
    refine r_irem hO dX7_common_4 ?_
    refine r_if_eq (tgt := 15) hO dX7_common_5 (by decide) ?_ ?_
    · refine r_iload_n (i := 2) hO rfl rfl dX7_common_15 ?_
      exact r_iret hO hR dX7_common_16
    · refine r_iload_n (i := 2) hO rfl rfl dX7_common_8 ?_
      refine r_iload_n (i := 0) hO rfl rfl dX7_common_9 ?_
      refine r_iadd hO dX7_common_10 ?_
      refine r_istore_n (i := 2) hO rfl rfl rfl dX7_common_11 ?_
      refine r_goto (tgt := 2) hO dX7_common_12 (by decide) ?_
      exact r_jmp (ih x0 x1 (x2 + x0) σ) (lsub_c rfl (lsub_c rfl (lsub_c rfl lsub_n)))
set_option maxRecDepth 20000 in
set_option maxHeartbeats 1000000 in
theorem b_X7_common {K : Kt}  (hO : Ok K cX7_common RX7 3 rm_X7_common) (hR : Rt K (some .int))  (a0 : Int32) (a1 : Int32) (σ : Wd) : Cm K 3 (0, 0) (f_X7_common a0 a1 σ) σ 0 [(0, .int a0), (1, .int a1)] [] := by
  refine r_iload_n (i := 0) hO rfl rfl dX7_common_0 ?_
  refine r_istore_n (i := 2) hO rfl rfl rfl dX7_common_1 ?_
  exact r_jmp (b_X7_common_2 hO hR FU a0 a1 a0 σ) (lsub_c rfl (lsub_c rfl (lsub_c rfl lsub_n)))
theorem c_X7_common {l : Launch} {G : Gh}   (a0 : Int32) (a1 : Int32) (σ : Wd) : Con l G yX7_common cX7_common 3 (some .int) 0 0 [.int a0, .int a1] σ (f_X7_common a0 a1 σ) := Con.of (plainFor_of_name (by decide)) rfl (Nat.le_of_ble_eq_true rfl) (fun K hl hG hO hR => by subst hl; subst hG; exact b_X7_common hO hR  a0 a1 σ)
theorem cal_X7_common : CalS yX7_common cX7_common 3 (some .int) 2 := ⟨a_756, a_757, a_464, by decide, by decide, by decide +kernel⟩
theorem k_X7_common {K : Kt} {nL : Nat} {cs : Nat × Nat} {σ : Wd} {pc : Nat} {lv : List (Nat × Value)} {st : List Value} {cc : ByteArray} {own : String} {rm : Room} {index : Nat} {g : Int32 → Wd → Option (Int32 × Wd)} {a0 : Int32} {a1 : Int32} (hO : Ok K cc own nL rm)  (hl : Cond.methodLink own index yX7_common ∈ gtb) (hcat : Nat.ble ((st.map fun v => v.category).sum) 8 = true) (hR : RoomOk rm cs 0 0 3) (d : decode cc pc = .ok (.invokestatic index, 3)) (kk : ∀ (r : Int32) (σ : Wd), Cm K nL cs (g r σ) σ (pc + 3) lv (.int r :: st)) : Cm K nL cs (bd (f_X7_common a0 a1 σ) g) σ pc lv (.int a1 :: .int a0 :: st) := r_cSi hO (c_X7_common  a0 a1 σ) cal_X7_common hl rfl rfl hcat hR d kk
/-! OrderSplitModel.move -/
def f_X7_move_210  (k38 : Int32 → Int32 → Int32 → Wd → Option (Int32 × Wd)) (k49 : Int32 → Int32 → Int32 → Int32 → Wd → Option (Int32 × Wd)) (x1 : Int32) (x2 : Int32) (x3 : Int32) (x4 : Int32) (σ : Wd) : Option (Int32 × Wd) := (k49 x1 x2 x3 (x4 + (1 : Int32)) σ)
def f_X7_move_49  (k38 : Int32 → Int32 → Int32 → Wd → Option (Int32 × Wd)) : Nat → Int32 → Int32 → Int32 → Int32 → Wd → Option (Int32 × Wd)
  | 0 => fun _ _ _ _ _ => none
  | n + 1 => fun x1 x2 x3 x4 σ => if (σ.1 102 14) ≤ x4 then (k38 x1 x2 (x3 + (1 : Int32)) σ) else (bd (f_X7_lot x3 σ) fun r1 σ2 => bd (f_X7_lot x4 σ2) fun r3 σ4 => bd (f_X7_common r1 r3 σ4) fun r5 σ6 => if x3 = x4 then (f_X7_move_210 k38 (f_X7_move_49 k38 n) x1 x2 x3 x4 σ6) else (gd (inb ((43 : Int32) + x3) 179) (if (σ6.1 112 (ix ((43 : Int32) + x3))) < r5 then (f_X7_move_210 k38 (f_X7_move_49 k38 n) x1 x2 x3 x4 σ6) else (gd (inb ((43 : Int32) + x4) 179) (bd (f_X7_depth x4 σ6) fun r7 σ8 => if ((σ6.1 112 (ix ((43 : Int32) + x4))) + r5) ≤ r7 then (gd (inb ((43 : Int32) + x3) 179) (bd (f_X7_costOf x3 ((σ8.1 112 (ix ((43 : Int32) + x3))) - r5) σ8) fun r9 σ10 => gd (inb ((43 : Int32) + x4) 179) (bd (f_X7_costOf x4 ((σ10.1 112 (ix ((43 : Int32) + x4))) + r5) σ10) fun r11 σ12 => gd (inb ((43 : Int32) + x3) 179) (bd (f_X7_costOf x3 (σ12.1 112 (ix ((43 : Int32) + x3))) σ12) fun r13 σ14 => gd (inb ((43 : Int32) + x4) 179) (bd (f_X7_costOf x4 (σ14.1 112 (ix ((43 : Int32) + x4))) σ14) fun r15 σ16 => if (((r9 + r11) - r13) - r15) < x2 then (f_X7_move_210 k38 (f_X7_move_49 k38 n) (((10 : Int32) * x3) + x4) (((r9 + r11) - r13) - r15) x3 x4 σ16) else (f_X7_move_210 k38 (f_X7_move_49 k38 n) x1 x2 x3 x4 σ16)))))) else (f_X7_move_210 k38 (f_X7_move_49 k38 n) x1 x2 x3 x4 σ8))))))
def f_X7_move_38   : Nat → Int32 → Int32 → Int32 → Wd → Option (Int32 × Wd)
  | 0 => fun _ _ _ _ => none
  | n + 1 => fun x1 x2 x3 σ => if (σ.1 102 14) ≤ x3 then (bd (f_X7_good x1 σ) fun r1 σ2 => some (r1, σ2)) else (f_X7_move_49 (f_X7_move_38 n) FU x1 x2 x3 (0 : Int32) σ)
def f_X7_move  (σ : Wd) : Option (Int32 × Wd) := nmW (wi σ 102 0 (0 : Int32)) fun σ1 => if (σ1.1 102 21) = 0 then (bd (f_X7_refused (1 : Int32) σ1) fun r2 σ3 => some (r2, σ3)) else (bd (f_X7_canHavePlan σ1) fun r4 σ5 => if r4 = 0 then (bd (f_X7_refused (5 : Int32) σ5) fun r6 σ7 => some (r6, σ7)) else (f_X7_move_38 FU (-2 : Int32) (0 : Int32) (0 : Int32) σ5))
set_option maxRecDepth 20000 in
set_option maxHeartbeats 1000000 in
theorem b_X7_move_210 {K : Kt}  {k38 : Int32 → Int32 → Int32 → Wd → Option (Int32 × Wd)} {k49 : Int32 → Int32 → Int32 → Int32 → Wd → Option (Int32 × Wd)} (hO : Ok K cX7_move RX7 7 rm_X7_move) (hR : Rt K (some .int))   (hk38 : ∀ (x1 : Int32) (x2 : Int32) (x3 : Int32) (σ : Wd), Cm K 7 (0, 0) (k38 x1 x2 x3 σ) σ 38 [(0, .ref (K.G.A 102)), (1, .int x1), (2, .int x2), (3, .int x3)] []) (hk49 : ∀ (x1 : Int32) (x2 : Int32) (x3 : Int32) (x4 : Int32) (σ : Wd), Cm K 7 (0, 0) (k49 x1 x2 x3 x4 σ) σ 49 [(0, .ref (K.G.A 102)), (1, .int x1), (2, .int x2), (3, .int x3), (4, .int x4)] []) (x1 : Int32) (x2 : Int32) (x3 : Int32) (x4 : Int32) (σ : Wd)  : Cm K 7 (0, 0) (f_X7_move_210 k38 k49 x1 x2 x3 x4 σ) σ 210 [(0, .ref (K.G.A 102)), (1, .int x1), (2, .int x2), (3, .int x3), (4, .int x4)] [] := by
  refine r_iinc hO rfl ci_1 rfl rfl dX7_move_210 ?_
  refine r_goto (tgt := 49) hO dX7_move_213 (by decide) ?_
  exact r_jmp (hk49 x1 x2 x3 (x4 + (1 : Int32)) σ) (lsub_c rfl (lsub_c rfl (lsub_c rfl (lsub_c rfl (lsub_c rfl lsub_n)))))
set_option maxRecDepth 20000 in
set_option maxHeartbeats 1000000 in
theorem b_X7_move_49 {K : Kt}  {k38 : Int32 → Int32 → Int32 → Wd → Option (Int32 × Wd)} (hO : Ok K cX7_move RX7 7 rm_X7_move) (hR : Rt K (some .int))   (hk38 : ∀ (x1 : Int32) (x2 : Int32) (x3 : Int32) (σ : Wd), Cm K 7 (0, 0) (k38 x1 x2 x3 σ) σ 38 [(0, .ref (K.G.A 102)), (1, .int x1), (2, .int x2), (3, .int x3)] []) : ∀ (n : Nat) (x1 : Int32) (x2 : Int32) (x3 : Int32) (x4 : Int32) (σ : Wd) , Cm K 7 (0, 0) (f_X7_move_49 k38 n x1 x2 x3 x4 σ) σ 49 [(0, .ref (K.G.A 102)), (1, .int x1), (2, .int x2), (3, .int x3), (4, .int x4)] [] := by
  intro n
  induction n with
  | zero => intro x1 x2 x3 x4 σ ; exact r_none
  | succ n ih =>
    intro x1 x2 x3 x4 σ 
    refine r_iload hO (d := dX7_move_49) rfl ?_
    refine r_aload_n (i := 0) hO rfl rfl dX7_move_51 ?_
    refine gX7_235 hO dX7_move_52 ?_
    refine r_icmp_ge (tgt := 216) hO dX7_move_55 (by decide) ?_ ?_
    · refine r_iinc hO rfl ci_1 rfl rfl dX7_move_216 ?_
      refine r_goto (tgt := 38) hO dX7_move_219 (by decide) ?_
      exact r_jmp (hk38 x1 x2 (x3 + (1 : Int32)) σ) (lsub_c rfl (lsub_c rfl (lsub_c rfl (lsub_c rfl lsub_n))))
    · refine r_aload_n (i := 0) hO rfl rfl dX7_move_58 ?_
      refine r_iload_n (i := 3) hO rfl rfl dX7_move_59 ?_
      refine k_X7_lot hO a_643 rfl ⟨rfl, rfl, Nat.le_refl _, Nat.le_refl _⟩ dX7_move_60 ?_
      intro r1 σ2
      refine r_aload_n (i := 0) hO rfl rfl dX7_move_63 ?_
      refine r_iload hO (d := dX7_move_64) rfl ?_
      refine k_X7_lot hO a_643 rfl ⟨rfl, rfl, Nat.le_refl _, Nat.le_refl _⟩ dX7_move_66 ?_
      intro r3 σ4
      refine k_X7_common hO a_758 rfl ⟨rfl, rfl, Nat.le_refl _, Nat.le_refl _⟩ dX7_move_69 ?_
      intro r5 σ6
      refine r_istore hO rfl rfl dX7_move_72 ?_
      refine r_iload_n (i := 3) hO rfl rfl dX7_move_74 ?_
      refine r_iload hO (d := dX7_move_75) rfl ?_
      refine r_icmp_eq (tgt := 210) hO dX7_move_77 (by decide) ?_ ?_
      · exact r_jmp (b_X7_move_210 hO hR hk38 ih x1 x2 x3 x4 σ6) (lsub_c rfl (lsub_c rfl (lsub_c rfl (lsub_c rfl (lsub_c rfl lsub_n)))))
      · refine r_aload_n (i := 0) hO rfl rfl dX7_move_80 ?_
        refine gX7_44 hO dX7_move_81 ?_
        refine r_bipush hO bi_43 dX7_move_84 ?_
        refine r_iload_n (i := 3) hO rfl rfl dX7_move_86 ?_
        refine r_iadd hO dX7_move_87 ?_
        refine r_iald hO s_112 dX7_move_88 ?_
        refine r_iload hO (d := dX7_move_89) rfl ?_
        refine r_icmp_lt (tgt := 210) hO dX7_move_91 (by decide) ?_ ?_
        · exact r_jmp (b_X7_move_210 hO hR hk38 ih x1 x2 x3 x4 σ6) (lsub_c rfl (lsub_c rfl (lsub_c rfl (lsub_c rfl (lsub_c rfl lsub_n)))))
        · refine r_aload_n (i := 0) hO rfl rfl dX7_move_94 ?_
          refine gX7_44 hO dX7_move_95 ?_
          refine r_bipush hO bi_43 dX7_move_98 ?_
          refine r_iload hO (d := dX7_move_100) rfl ?_
          refine r_iadd hO dX7_move_102 ?_
          refine r_iald hO s_112 dX7_move_103 ?_
          refine r_iload hO (d := dX7_move_104) rfl ?_
          refine r_iadd hO dX7_move_106 ?_
          refine r_aload_n (i := 0) hO rfl rfl dX7_move_107 ?_
          refine r_iload hO (d := dX7_move_108) rfl ?_
          refine k_X7_depth hO a_644 rfl ⟨rfl, rfl, Nat.le_refl _, Nat.le_refl _⟩ dX7_move_110 ?_
          intro r7 σ8
          refine r_icmp_le (tgt := 119) hO dX7_move_113 (by decide) ?_ ?_
          · refine r_aload_n (i := 0) hO rfl rfl dX7_move_119 ?_
            refine r_iload_n (i := 3) hO rfl rfl dX7_move_120 ?_
            refine r_aload_n (i := 0) hO rfl rfl dX7_move_121 ?_
            refine gX7_44 hO dX7_move_122 ?_
            refine r_bipush hO bi_43 dX7_move_125 ?_
            refine r_iload_n (i := 3) hO rfl rfl dX7_move_127 ?_
            refine r_iadd hO dX7_move_128 ?_
            refine r_iald hO s_112 dX7_move_129 ?_
            refine r_iload hO (d := dX7_move_130) rfl ?_
            refine r_isub hO dX7_move_132 ?_
            refine k_X7_costOf hO a_658 rfl ⟨rfl, rfl, Nat.le_refl _, Nat.le_refl _⟩ dX7_move_133 ?_
            intro r9 σ10
            refine r_aload_n (i := 0) hO rfl rfl dX7_move_136 ?_
            refine r_iload hO (d := dX7_move_137) rfl ?_
            refine r_aload_n (i := 0) hO rfl rfl dX7_move_139 ?_
            refine gX7_44 hO dX7_move_140 ?_
            refine r_bipush hO bi_43 dX7_move_143 ?_
            refine r_iload hO (d := dX7_move_145) rfl ?_
            refine r_iadd hO dX7_move_147 ?_
            refine r_iald hO s_112 dX7_move_148 ?_
            refine r_iload hO (d := dX7_move_149) rfl ?_
            refine r_iadd hO dX7_move_151 ?_
            refine k_X7_costOf hO a_658 rfl ⟨rfl, rfl, Nat.le_refl _, Nat.le_refl _⟩ dX7_move_152 ?_
            intro r11 σ12
            refine r_iadd hO dX7_move_155 ?_
            refine r_aload_n (i := 0) hO rfl rfl dX7_move_156 ?_
            refine r_iload_n (i := 3) hO rfl rfl dX7_move_157 ?_
            refine r_aload_n (i := 0) hO rfl rfl dX7_move_158 ?_
            refine gX7_44 hO dX7_move_159 ?_
            refine r_bipush hO bi_43 dX7_move_162 ?_
            refine r_iload_n (i := 3) hO rfl rfl dX7_move_164 ?_
            refine r_iadd hO dX7_move_165 ?_
            refine r_iald hO s_112 dX7_move_166 ?_
            refine k_X7_costOf hO a_658 rfl ⟨rfl, rfl, Nat.le_refl _, Nat.le_refl _⟩ dX7_move_167 ?_
            intro r13 σ14
            refine r_isub hO dX7_move_170 ?_
            refine r_aload_n (i := 0) hO rfl rfl dX7_move_171 ?_
            refine r_iload hO (d := dX7_move_172) rfl ?_
            refine r_aload_n (i := 0) hO rfl rfl dX7_move_174 ?_
            refine gX7_44 hO dX7_move_175 ?_
            refine r_bipush hO bi_43 dX7_move_178 ?_
            refine r_iload hO (d := dX7_move_180) rfl ?_
            refine r_iadd hO dX7_move_182 ?_
            refine r_iald hO s_112 dX7_move_183 ?_
            refine k_X7_costOf hO a_658 rfl ⟨rfl, rfl, Nat.le_refl _, Nat.le_refl _⟩ dX7_move_184 ?_
            intro r15 σ16
            refine r_isub hO dX7_move_187 ?_
            refine r_istore hO rfl rfl dX7_move_188 ?_
            refine r_iload hO (d := dX7_move_190) rfl ?_
            refine r_iload_n (i := 2) hO rfl rfl dX7_move_192 ?_
            refine r_icmp_lt (tgt := 199) hO dX7_move_193 (by decide) ?_ ?_
            · refine r_iload hO (d := dX7_move_199) rfl ?_
              refine r_istore_n (i := 2) hO rfl rfl rfl dX7_move_201 ?_
              refine r_bipush hO bi_10 dX7_move_202 ?_
              refine r_iload_n (i := 3) hO rfl rfl dX7_move_204 ?_
              refine r_imul hO dX7_move_205 ?_
              refine r_iload hO (d := dX7_move_206) rfl ?_
              refine r_iadd hO dX7_move_208 ?_
              refine r_istore_n (i := 1) hO rfl rfl rfl dX7_move_209 ?_
              exact r_jmp (b_X7_move_210 hO hR hk38 ih (((10 : Int32) * x3) + x4) (((r9 + r11) - r13) - r15) x3 x4 σ16) (lsub_c rfl (lsub_c rfl (lsub_c rfl (lsub_c rfl (lsub_c rfl lsub_n)))))
            · refine r_goto (tgt := 210) hO dX7_move_196 (by decide) ?_
              exact r_jmp (b_X7_move_210 hO hR hk38 ih x1 x2 x3 x4 σ16) (lsub_c rfl (lsub_c rfl (lsub_c rfl (lsub_c rfl (lsub_c rfl lsub_n)))))
          · refine r_goto (tgt := 210) hO dX7_move_116 (by decide) ?_
            exact r_jmp (b_X7_move_210 hO hR hk38 ih x1 x2 x3 x4 σ8) (lsub_c rfl (lsub_c rfl (lsub_c rfl (lsub_c rfl (lsub_c rfl lsub_n)))))
set_option maxRecDepth 20000 in
set_option maxHeartbeats 1000000 in
theorem b_X7_move_38 {K : Kt}   (hO : Ok K cX7_move RX7 7 rm_X7_move) (hR : Rt K (some .int))   : ∀ (n : Nat) (x1 : Int32) (x2 : Int32) (x3 : Int32) (σ : Wd) , Cm K 7 (0, 0) (f_X7_move_38  n x1 x2 x3 σ) σ 38 [(0, .ref (K.G.A 102)), (1, .int x1), (2, .int x2), (3, .int x3)] [] := by
  intro n
  induction n with
  | zero => intro x1 x2 x3 σ ; exact r_none
  | succ n ih =>
    intro x1 x2 x3 σ 
    refine r_iload_n (i := 3) hO rfl rfl dX7_move_38 ?_
    refine r_aload_n (i := 0) hO rfl rfl dX7_move_39 ?_
    refine gX7_235 hO dX7_move_40 ?_
    refine r_icmp_ge (tgt := 222) hO dX7_move_43 (by decide) ?_ ?_
    · refine r_aload_n (i := 0) hO rfl rfl dX7_move_222 ?_
      refine r_iload_n (i := 1) hO rfl rfl dX7_move_223 ?_
      refine k_X7_good hO a_592 rfl ⟨rfl, rfl, Nat.le_refl _, Nat.le_refl _⟩ dX7_move_224 ?_
      intro r1 σ2
      exact r_iret hO hR dX7_move_227
    · refine r_iconst hO ci_0 dX7_move_46 ?_
      refine r_istore hO rfl rfl dX7_move_47 ?_
      exact r_jmp (b_X7_move_49 hO hR ih FU x1 x2 x3 (0 : Int32) σ) (lsub_c rfl (lsub_c rfl (lsub_c rfl (lsub_c rfl (lsub_c rfl lsub_n)))))
set_option maxRecDepth 20000 in
set_option maxHeartbeats 1000000 in
theorem b_X7_move {K : Kt}  (hO : Ok K cX7_move RX7 7 rm_X7_move) (hR : Rt K (some .int))   (σ : Wd) : Cm K 7 (0, 0) (f_X7_move  σ) σ 0 [(0, .ref (K.G.A 102))] [] := by
  refine r_aload_n (i := 0) hO rfl rfl dX7_move_0 ?_
  refine r_iconst hO ci_0 dX7_move_1 ?_
  refine pX7_70 hO dX7_move_2 ?_
  refine r_nmW fun σ1 => ?_
  refine r_aload_n (i := 0) hO rfl rfl dX7_move_5 ?_
  refine gX7_241 hO dX7_move_6 ?_
  refine r_if_ne (tgt := 18) hO dX7_move_9 (by decide) ?_ ?_
  · refine r_aload_n (i := 0) hO rfl rfl dX7_move_12 ?_
    refine r_iconst hO ci_1 dX7_move_13 ?_
    refine k_X7_refused hO a_465 rfl ⟨rfl, rfl, Nat.le_refl _, Nat.le_refl _⟩ dX7_move_14 ?_
    intro r2 σ3
    exact r_iret hO hR dX7_move_17
  · refine r_aload_n (i := 0) hO rfl rfl dX7_move_18 ?_
    refine k_X7_canHavePlan hO a_751 rfl ⟨rfl, rfl, Nat.le_refl _, Nat.le_refl _⟩ dX7_move_19 ?_
    intro r4 σ5
    refine r_if_ne (tgt := 31) hO dX7_move_22 (by decide) ?_ ?_
    · refine r_aload_n (i := 0) hO rfl rfl dX7_move_25 ?_
      refine r_iconst hO ci_5 dX7_move_26 ?_
      refine k_X7_refused hO a_465 rfl ⟨rfl, rfl, Nat.le_refl _, Nat.le_refl _⟩ dX7_move_27 ?_
      intro r6 σ7
      exact r_iret hO hR dX7_move_30
    · refine r_bipush hO bi_m2 dX7_move_31 ?_
      refine r_istore_n (i := 1) hO rfl rfl rfl dX7_move_33 ?_
      refine r_iconst hO ci_0 dX7_move_34 ?_
      refine r_istore_n (i := 2) hO rfl rfl rfl dX7_move_35 ?_
      refine r_iconst hO ci_0 dX7_move_36 ?_
      refine r_istore_n (i := 3) hO rfl rfl rfl dX7_move_37 ?_
      exact r_jmp (b_X7_move_38 hO hR FU (-2 : Int32) (0 : Int32) (0 : Int32) σ5) (lsub_c rfl (lsub_c rfl (lsub_c rfl (lsub_c rfl lsub_n))))
theorem c_X7_move {l : Launch} {G : Gh}    (σ : Wd) : Con l G yX7_move cX7_move 7 (some .int) 5 109 [.ref (G.A 102)] σ (f_X7_move  σ) := Con.of (plainFor_of_name (by decide)) rfl (Nat.le_of_ble_eq_true rfl) (fun K hl hG hO hR => by subst hl; subst hG; exact b_X7_move hO hR   σ)
theorem cal_X7_move : CalV yX7_move cX7_move 7 (some .int) 0 := ⟨a_759, a_760, a_761, a_464, by decide, by decide, by decide +kernel⟩
theorem k_X7_move {K : Kt} {nL : Nat} {cs : Nat × Nat} {σ : Wd} {pc : Nat} {lv : List (Nat × Value)} {st : List Value} {cc : ByteArray} {own : String} {rm : Room} {index : Nat} {g : Int32 → Wd → Option (Int32 × Wd)}  (hO : Ok K cc own nL rm)  (hl : Cond.methodLink own index yX7_move ∈ gtb) (hcat : Nat.ble ((st.map fun v => v.category).sum) 8 = true) (hR : RoomOk rm cs 5 109 7) (d : decode cc pc = .ok (.invokevirtual index, 3)) (kk : ∀ (r : Int32) (σ : Wd), Cm K nL cs (g r σ) σ (pc + 3) lv (.int r :: st)) : Cm K nL cs (bd (f_X7_move  σ) g) σ pc lv (.ref (K.G.A 102) :: st) := r_cVi hO (c_X7_move   σ) cal_X7_move hl rfl (by decide) ent_X7 rfl rfl hcat hR d kk
/-! OrderSplitModel.adopt -/
def f_X7_adopt_64   : Nat → Int32 → Wd → Option (Int32 × Wd)
  | 0 => fun _ _ => none
  | n + 1 => fun x2 σ => if (σ.1 102 14) ≤ x2 then (bd (f_X7_good (σ.1 102 37) σ) fun r1 σ2 => some (r1, σ2)) else (gd (inb x2 5) (gd (inb ((43 : Int32) + x2) 179) (nmW (wi σ 112 (ix ((43 : Int32) + x2)) (σ.1 117 (ix x2))) fun σ3 => (f_X7_adopt_64 n (x2 + (1 : Int32)) σ3))))
def f_X7_adopt (a1 : Int32) (σ : Wd) : Option (Int32 × Wd) := nmW (wi σ 102 0 (0 : Int32)) fun σ1 => if (σ1.1 102 21) = 0 then (bd (f_X7_refused (1 : Int32) σ1) fun r2 σ3 => some (r2, σ3)) else (gd (inb (35 : Int32) 179) (bd (f_X7_in a1 (1 : Int32) (σ1.1 112 (ix (35 : Int32))) σ1) fun r4 σ5 => if r4 = 0 then (bd (f_X7_refused (2 : Int32) σ5) fun r6 σ7 => some (r6, σ7)) else (gd (inb (36 : Int32) 179) (if (σ5.1 112 (ix (36 : Int32))) = (1 : Int32) then (bd (f_X7_refused (5 : Int32) σ5) fun r8 σ9 => some (r8, σ9)) else (bd (f_X7_laysBest a1 (-1 : Int32) σ5) fun _ σ10 => (f_X7_adopt_64 FU (0 : Int32) σ10))))))
set_option maxRecDepth 20000 in
set_option maxHeartbeats 1000000 in
theorem b_X7_adopt_64 {K : Kt}   (hO : Ok K cX7_adopt RX7 3 rm_X7_adopt) (hR : Rt K (some .int))   : ∀ (n : Nat) (x2 : Int32) (σ : Wd) , Cm K 3 (0, 0) (f_X7_adopt_64  n x2 σ) σ 64 [(0, .ref (K.G.A 102)), (2, .int x2)] [] := by
  intro n
  induction n with
  | zero => intro x2 σ ; exact r_none
  | succ n ih =>
    intro x2 σ 
    refine r_iload_n (i := 2) hO rfl rfl dX7_adopt_64 ?_
    refine r_aload_n (i := 0) hO rfl rfl dX7_adopt_65 ?_
    refine gX7_235 hO dX7_adopt_66 ?_
    refine r_icmp_ge (tgt := 93) hO dX7_adopt_69 (by decide) ?_ ?_
    · refine r_aload_n (i := 0) hO rfl rfl dX7_adopt_93 ?_
      refine r_aload_n (i := 0) hO rfl rfl dX7_adopt_94 ?_
      refine gX7_305 hO dX7_adopt_95 ?_
      refine k_X7_good hO a_592 rfl ⟨rfl, rfl, Nat.le_refl _, Nat.le_refl _⟩ dX7_adopt_98 ?_
      intro r1 σ2
      exact r_iret hO hR dX7_adopt_101
    · refine r_aload_n (i := 0) hO rfl rfl dX7_adopt_72 ?_
      refine gX7_44 hO dX7_adopt_73 ?_
      refine r_bipush hO bi_43 dX7_adopt_76 ?_
      refine r_iload_n (i := 2) hO rfl rfl dX7_adopt_78 ?_
      refine r_iadd hO dX7_adopt_79 ?_
      refine r_aload_n (i := 0) hO rfl rfl dX7_adopt_80 ?_
      refine gX7_60 hO dX7_adopt_81 ?_
      refine r_iload_n (i := 2) hO rfl rfl dX7_adopt_84 ?_
      refine r_iald hO s_117 dX7_adopt_85 ?_
      refine r_iast hO s_112 dX7_adopt_86 ?_
      refine r_nmW fun σ3 => ?_
      refine r_iinc hO rfl ci_1 rfl rfl dX7_adopt_87 ?_
      refine r_goto (tgt := 64) hO dX7_adopt_90 (by decide) ?_
      exact r_jmp (ih (x2 + (1 : Int32)) σ3) (lsub_c rfl (lsub_c rfl lsub_n))
set_option maxRecDepth 20000 in
set_option maxHeartbeats 1000000 in
theorem b_X7_adopt {K : Kt}  (hO : Ok K cX7_adopt RX7 3 rm_X7_adopt) (hR : Rt K (some .int))  (a1 : Int32) (σ : Wd) : Cm K 3 (0, 0) (f_X7_adopt a1 σ) σ 0 [(0, .ref (K.G.A 102)), (1, .int a1)] [] := by
  refine r_aload_n (i := 0) hO rfl rfl dX7_adopt_0 ?_
  refine r_iconst hO ci_0 dX7_adopt_1 ?_
  refine pX7_70 hO dX7_adopt_2 ?_
  refine r_nmW fun σ1 => ?_
  refine r_aload_n (i := 0) hO rfl rfl dX7_adopt_5 ?_
  refine gX7_241 hO dX7_adopt_6 ?_
  refine r_if_ne (tgt := 18) hO dX7_adopt_9 (by decide) ?_ ?_
  · refine r_aload_n (i := 0) hO rfl rfl dX7_adopt_12 ?_
    refine r_iconst hO ci_1 dX7_adopt_13 ?_
    refine k_X7_refused hO a_465 rfl ⟨rfl, rfl, Nat.le_refl _, Nat.le_refl _⟩ dX7_adopt_14 ?_
    intro r2 σ3
    exact r_iret hO hR dX7_adopt_17
  · refine r_iload_n (i := 1) hO rfl rfl dX7_adopt_18 ?_
    refine r_iconst hO ci_1 dX7_adopt_19 ?_
    refine r_aload_n (i := 0) hO rfl rfl dX7_adopt_20 ?_
    refine gX7_44 hO dX7_adopt_21 ?_
    refine r_bipush hO bi_35 dX7_adopt_24 ?_
    refine r_iald hO s_112 dX7_adopt_26 ?_
    refine k_X7_in hO a_483 rfl ⟨rfl, rfl, Nat.le_refl _, Nat.le_refl _⟩ dX7_adopt_27 ?_
    intro r4 σ5
    refine r_if_ne (tgt := 39) hO dX7_adopt_30 (by decide) ?_ ?_
    · refine r_aload_n (i := 0) hO rfl rfl dX7_adopt_33 ?_
      refine r_iconst hO ci_2 dX7_adopt_34 ?_
      refine k_X7_refused hO a_465 rfl ⟨rfl, rfl, Nat.le_refl _, Nat.le_refl _⟩ dX7_adopt_35 ?_
      intro r6 σ7
      exact r_iret hO hR dX7_adopt_38
    · refine r_aload_n (i := 0) hO rfl rfl dX7_adopt_39 ?_
      refine gX7_44 hO dX7_adopt_40 ?_
      refine r_bipush hO bi_36 dX7_adopt_43 ?_
      refine r_iald hO s_112 dX7_adopt_45 ?_
      refine r_iconst hO ci_1 dX7_adopt_46 ?_
      refine r_icmp_ne (tgt := 56) hO dX7_adopt_47 (by decide) ?_ ?_
      · refine r_aload_n (i := 0) hO rfl rfl dX7_adopt_50 ?_
        refine r_iconst hO ci_5 dX7_adopt_51 ?_
        refine k_X7_refused hO a_465 rfl ⟨rfl, rfl, Nat.le_refl _, Nat.le_refl _⟩ dX7_adopt_52 ?_
        intro r8 σ9
        exact r_iret hO hR dX7_adopt_55
      · refine r_aload_n (i := 0) hO rfl rfl dX7_adopt_56 ?_
        refine r_iload_n (i := 1) hO rfl rfl dX7_adopt_57 ?_
        refine r_iconst hO ci_m1 dX7_adopt_58 ?_
        refine k_X7_laysBest hO a_686 rfl ⟨rfl, rfl, Nat.le_refl _, Nat.le_refl _⟩ dX7_adopt_59 ?_
        intro _ σ10
        refine r_iconst hO ci_0 dX7_adopt_62 ?_
        refine r_istore_n (i := 2) hO rfl rfl rfl dX7_adopt_63 ?_
        exact r_jmp (b_X7_adopt_64 hO hR FU (0 : Int32) σ10) (lsub_c rfl (lsub_c rfl lsub_n))
theorem c_X7_adopt {l : Launch} {G : Gh}   (a1 : Int32) (σ : Wd) : Con l G yX7_adopt cX7_adopt 3 (some .int) 7 163 [.ref (G.A 102), .int a1] σ (f_X7_adopt a1 σ) := Con.of (plainFor_of_name (by decide)) rfl (Nat.le_of_ble_eq_true rfl) (fun K hl hG hO hR => by subst hl; subst hG; exact b_X7_adopt hO hR  a1 σ)
theorem cal_X7_adopt : CalV yX7_adopt cX7_adopt 3 (some .int) 1 := ⟨a_762, a_763, a_764, a_464, by decide, by decide, by decide +kernel⟩
theorem k_X7_adopt {K : Kt} {nL : Nat} {cs : Nat × Nat} {σ : Wd} {pc : Nat} {lv : List (Nat × Value)} {st : List Value} {cc : ByteArray} {own : String} {rm : Room} {index : Nat} {g : Int32 → Wd → Option (Int32 × Wd)} {a1 : Int32} (hO : Ok K cc own nL rm)  (hl : Cond.methodLink own index yX7_adopt ∈ gtb) (hcat : Nat.ble ((st.map fun v => v.category).sum) 8 = true) (hR : RoomOk rm cs 7 163 3) (d : decode cc pc = .ok (.invokevirtual index, 3)) (kk : ∀ (r : Int32) (σ : Wd), Cm K nL cs (g r σ) σ (pc + 3) lv (.int r :: st)) : Cm K nL cs (bd (f_X7_adopt a1 σ) g) σ pc lv (.int a1 :: .ref (K.G.A 102) :: st) := r_cVi hO (c_X7_adopt  a1 σ) cal_X7_adopt hl rfl (by decide) ent_X7 rfl rfl hcat hR d kk
/-! OrderSplitModel.partIs -/
def f_X7_partIs (a1 : Int32) (a2 : Int32) (σ : Wd) : Option (Int32 × Wd) := bd (f_X7_partAt a1 σ) fun r1 σ2 => gd (inb (r1 + a2) 179) (some (σ2.1 112 (ix (r1 + a2)), σ2))
set_option maxRecDepth 20000 in
set_option maxHeartbeats 1000000 in
theorem b_X7_partIs {K : Kt}  (hO : Ok K cX7_partIs RX7 3 rm_X7_partIs) (hR : Rt K (some .int))  (a1 : Int32) (a2 : Int32) (σ : Wd) : Cm K 3 (0, 0) (f_X7_partIs a1 a2 σ) σ 0 [(0, .ref (K.G.A 102)), (1, .int a1), (2, .int a2)] [] := by
  refine r_aload_n (i := 0) hO rfl rfl dX7_partIs_0 ?_
  refine gX7_44 hO dX7_partIs_1 ?_
  refine r_iload_n (i := 1) hO rfl rfl dX7_partIs_4 ?_
  refine k_X7_partAt hO a_581 rfl ⟨rfl, rfl, Nat.le_refl _, Nat.le_refl _⟩ dX7_partIs_5 ?_
  intro r1 σ2
  refine r_iload_n (i := 2) hO rfl rfl dX7_partIs_8 ?_
  refine r_iadd hO dX7_partIs_9 ?_
  refine r_iald hO s_112 dX7_partIs_10 ?_
  exact r_iret hO hR dX7_partIs_11
theorem c_X7_partIs {l : Launch} {G : Gh}   (a1 : Int32) (a2 : Int32) (σ : Wd) : Con l G yX7_partIs cX7_partIs 3 (some .int) 1 20 [.ref (G.A 102), .int a1, .int a2] σ (f_X7_partIs a1 a2 σ) := Con.of (plainFor_of_name (by decide)) rfl (Nat.le_of_ble_eq_true rfl) (fun K hl hG hO hR => by subst hl; subst hG; exact b_X7_partIs hO hR  a1 a2 σ)
theorem cal_X7_partIs : CalV yX7_partIs cX7_partIs 3 (some .int) 2 := ⟨a_765, a_766, a_767, a_464, by decide, by decide, by decide +kernel⟩
theorem k_X7_partIs {K : Kt} {nL : Nat} {cs : Nat × Nat} {σ : Wd} {pc : Nat} {lv : List (Nat × Value)} {st : List Value} {cc : ByteArray} {own : String} {rm : Room} {index : Nat} {g : Int32 → Wd → Option (Int32 × Wd)} {a1 : Int32} {a2 : Int32} (hO : Ok K cc own nL rm)  (hl : Cond.methodLink own index yX7_partIs ∈ gtb) (hcat : Nat.ble ((st.map fun v => v.category).sum) 8 = true) (hR : RoomOk rm cs 1 20 3) (d : decode cc pc = .ok (.invokevirtual index, 3)) (kk : ∀ (r : Int32) (σ : Wd), Cm K nL cs (g r σ) σ (pc + 3) lv (.int r :: st)) : Cm K nL cs (bd (f_X7_partIs a1 a2 σ) g) σ pc lv (.int a2 :: .int a1 :: .ref (K.G.A 102) :: st) := r_cVi hO (c_X7_partIs  a1 a2 σ) cal_X7_partIs hl rfl (by decide) ent_X7 rfl rfl hcat hR d kk
/-! OrderSplitModel.isUnderWay -/
def f_X7_isUnderWay_2   : Nat → Int32 → Wd → Option (Int32 × Wd)
  | 0 => fun _ _ => none
  | n + 1 => fun x1 σ => if (σ.1 102 14) ≤ x1 then (gd (isb (0 : Int32)) (some ((0 : Int32), σ))) else (bd (f_X7_partIs x1 (0 : Int32) σ) fun r1 σ2 => if r1 = 0 then (f_X7_isUnderWay_2 n (x1 + (1 : Int32)) σ2) else (gd (isb (1 : Int32)) (some ((1 : Int32), σ2))))
def f_X7_isUnderWay  (σ : Wd) : Option (Int32 × Wd) := (f_X7_isUnderWay_2 FU (0 : Int32) σ)
set_option maxRecDepth 20000 in
set_option maxHeartbeats 1000000 in
theorem b_X7_isUnderWay_2 {K : Kt}   (hO : Ok K cX7_isUnderWay RX7 2 rm_X7_isUnderWay) (hR : Rt K (some .boolean))   : ∀ (n : Nat) (x1 : Int32) (σ : Wd) , Cm K 2 (0, 0) (f_X7_isUnderWay_2  n x1 σ) σ 2 [(0, .ref (K.G.A 102)), (1, .int x1)] [] := by
  intro n
  induction n with
  | zero => intro x1 σ ; exact r_none
  | succ n ih =>
    intro x1 σ 
    refine r_iload_n (i := 1) hO rfl rfl dX7_isUnderWay_2 ?_
    refine r_aload_n (i := 0) hO rfl rfl dX7_isUnderWay_3 ?_
    refine gX7_235 hO dX7_isUnderWay_4 ?_
    refine r_icmp_ge (tgt := 27) hO dX7_isUnderWay_7 (by decide) ?_ ?_
    · refine r_iconst hO ci_0 dX7_isUnderWay_27 ?_
      exact r_zret hO hR dX7_isUnderWay_28
    · refine r_aload_n (i := 0) hO rfl rfl dX7_isUnderWay_10 ?_
      refine r_iload_n (i := 1) hO rfl rfl dX7_isUnderWay_11 ?_
      refine r_iconst hO ci_0 dX7_isUnderWay_12 ?_
      refine k_X7_partIs hO a_768 rfl ⟨rfl, rfl, Nat.le_refl _, Nat.le_refl _⟩ dX7_isUnderWay_13 ?_
      intro r1 σ2
      refine r_if_eq (tgt := 21) hO dX7_isUnderWay_16 (by decide) ?_ ?_
      · refine r_iinc hO rfl ci_1 rfl rfl dX7_isUnderWay_21 ?_
        refine r_goto (tgt := 2) hO dX7_isUnderWay_24 (by decide) ?_
        exact r_jmp (ih (x1 + (1 : Int32)) σ2) (lsub_c rfl (lsub_c rfl lsub_n))
      · refine r_iconst hO ci_1 dX7_isUnderWay_19 ?_
        exact r_zret hO hR dX7_isUnderWay_20
set_option maxRecDepth 20000 in
set_option maxHeartbeats 1000000 in
theorem b_X7_isUnderWay {K : Kt}  (hO : Ok K cX7_isUnderWay RX7 2 rm_X7_isUnderWay) (hR : Rt K (some .boolean))   (σ : Wd) : Cm K 2 (0, 0) (f_X7_isUnderWay  σ) σ 0 [(0, .ref (K.G.A 102))] [] := by
  refine r_iconst hO ci_0 dX7_isUnderWay_0 ?_
  refine r_istore_n (i := 1) hO rfl rfl rfl dX7_isUnderWay_1 ?_
  exact r_jmp (b_X7_isUnderWay_2 hO hR FU (0 : Int32) σ) (lsub_c rfl (lsub_c rfl lsub_n))
theorem c_X7_isUnderWay {l : Launch} {G : Gh}    (σ : Wd) : Con l G yX7_isUnderWay cX7_isUnderWay 2 (some .boolean) 2 42 [.ref (G.A 102)] σ (f_X7_isUnderWay  σ) := Con.of (plainFor_of_name (by decide)) rfl (Nat.le_of_ble_eq_true rfl) (fun K hl hG hO hR => by subst hl; subst hG; exact b_X7_isUnderWay hO hR   σ)
theorem cal_X7_isUnderWay : CalV yX7_isUnderWay cX7_isUnderWay 2 (some .boolean) 0 := ⟨a_769, a_770, a_771, a_464, by decide, by decide, by decide +kernel⟩
theorem k_X7_isUnderWay {K : Kt} {nL : Nat} {cs : Nat × Nat} {σ : Wd} {pc : Nat} {lv : List (Nat × Value)} {st : List Value} {cc : ByteArray} {own : String} {rm : Room} {index : Nat} {g : Int32 → Wd → Option (Int32 × Wd)}  (hO : Ok K cc own nL rm)  (hl : Cond.methodLink own index yX7_isUnderWay ∈ gtb) (hcat : Nat.ble ((st.map fun v => v.category).sum) 8 = true) (hR : RoomOk rm cs 2 42 2) (d : decode cc pc = .ok (.invokevirtual index, 3)) (kk : ∀ (r : Int32) (σ : Wd), Cm K nL cs (g r σ) σ (pc + 3) lv (.int r :: st)) : Cm K nL cs (bd (f_X7_isUnderWay  σ) g) σ pc lv (.ref (K.G.A 102) :: st) := r_cVi hO (c_X7_isUnderWay   σ) cal_X7_isUnderWay hl rfl (by decide) ent_X7 rfl rfl hcat hR d kk
/-! OrderSplitModel.sends -/
def f_X7_sends (a1 : Int32) (a2 : Int32) (σ : Wd) : Option (Int32 × Wd) := bd (f_X7_clearsPart a1 σ) fun _ σ1 => bd (f_X7_partAt a1 σ1) fun r2 σ3 => gd (inb (r2 + (0 : Int32)) 179) (nmW (wi σ3 112 (ix (r2 + (0 : Int32))) (1 : Int32)) fun σ4 => gd (inb (r2 + (1 : Int32)) 179) (nmW (wi σ4 112 (ix (r2 + (1 : Int32))) a2) fun σ5 => bd (f_X7_costOf a1 a2 σ5) fun r6 σ7 => gd (inb (r2 + (3 : Int32)) 179) (nmW (wi σ7 112 (ix (r2 + (3 : Int32))) r6) fun σ8 => bd (f_X7_capOf a1 a2 σ8) fun r9 σ10 => gd (inb (r2 + (4 : Int32)) 179) (nmW (wi σ10 112 (ix (r2 + (4 : Int32))) r9) fun σ11 => gd (inb (37 : Int32) 179) (bd (f_X7_told a1 (3 : Int32) σ11) fun r12 σ13 => gd (inb (r2 + (5 : Int32)) 179) (nmW (wi σ13 112 (ix (r2 + (5 : Int32))) ((σ11.1 112 (ix (37 : Int32))) + r12)) fun σ14 => some (0, σ14)))))))
set_option maxRecDepth 20000 in
set_option maxHeartbeats 1000000 in
theorem b_X7_sends {K : Kt}  (hO : Ok K cX7_sends RX7 4 rm_X7_sends) (hR : Rt K none)  (a1 : Int32) (a2 : Int32) (σ : Wd) : Cm K 4 (0, 0) (f_X7_sends a1 a2 σ) σ 0 [(0, .ref (K.G.A 102)), (1, .int a1), (2, .int a2)] [] := by
  refine r_aload_n (i := 0) hO rfl rfl dX7_sends_0 ?_
  refine r_iload_n (i := 1) hO rfl rfl dX7_sends_1 ?_
  refine k_X7_clearsPart hO a_586 rfl ⟨rfl, rfl, Nat.le_refl _, Nat.le_refl _⟩ dX7_sends_2 ?_
  intro _ σ1
  refine r_iload_n (i := 1) hO rfl rfl dX7_sends_5 ?_
  refine k_X7_partAt hO a_581 rfl ⟨rfl, rfl, Nat.le_refl _, Nat.le_refl _⟩ dX7_sends_6 ?_
  intro r2 σ3
  refine r_istore_n (i := 3) hO rfl rfl rfl dX7_sends_9 ?_
  refine r_aload_n (i := 0) hO rfl rfl dX7_sends_10 ?_
  refine gX7_44 hO dX7_sends_11 ?_
  refine r_iload_n (i := 3) hO rfl rfl dX7_sends_14 ?_
  refine r_iconst hO ci_0 dX7_sends_15 ?_
  refine r_iadd hO dX7_sends_16 ?_
  refine r_iconst hO ci_1 dX7_sends_17 ?_
  refine r_iast hO s_112 dX7_sends_18 ?_
  refine r_nmW fun σ4 => ?_
  refine r_aload_n (i := 0) hO rfl rfl dX7_sends_19 ?_
  refine gX7_44 hO dX7_sends_20 ?_
  refine r_iload_n (i := 3) hO rfl rfl dX7_sends_23 ?_
  refine r_iconst hO ci_1 dX7_sends_24 ?_
  refine r_iadd hO dX7_sends_25 ?_
  refine r_iload_n (i := 2) hO rfl rfl dX7_sends_26 ?_
  refine r_iast hO s_112 dX7_sends_27 ?_
  refine r_nmW fun σ5 => ?_
  refine r_aload_n (i := 0) hO rfl rfl dX7_sends_28 ?_
  refine gX7_44 hO dX7_sends_29 ?_
  refine r_iload_n (i := 3) hO rfl rfl dX7_sends_32 ?_
  refine r_iconst hO ci_3 dX7_sends_33 ?_
  refine r_iadd hO dX7_sends_34 ?_
  refine r_aload_n (i := 0) hO rfl rfl dX7_sends_35 ?_
  refine r_iload_n (i := 1) hO rfl rfl dX7_sends_36 ?_
  refine r_iload_n (i := 2) hO rfl rfl dX7_sends_37 ?_
  refine k_X7_costOf hO a_658 rfl ⟨rfl, rfl, Nat.le_refl _, Nat.le_refl _⟩ dX7_sends_38 ?_
  intro r6 σ7
  refine r_iast hO s_112 dX7_sends_41 ?_
  refine r_nmW fun σ8 => ?_
  refine r_aload_n (i := 0) hO rfl rfl dX7_sends_42 ?_
  refine gX7_44 hO dX7_sends_43 ?_
  refine r_iload_n (i := 3) hO rfl rfl dX7_sends_46 ?_
  refine r_iconst hO ci_4 dX7_sends_47 ?_
  refine r_iadd hO dX7_sends_48 ?_
  refine r_aload_n (i := 0) hO rfl rfl dX7_sends_49 ?_
  refine r_iload_n (i := 1) hO rfl rfl dX7_sends_50 ?_
  refine r_iload_n (i := 2) hO rfl rfl dX7_sends_51 ?_
  refine k_X7_capOf hO a_772 rfl ⟨rfl, rfl, Nat.le_refl _, Nat.le_refl _⟩ dX7_sends_52 ?_
  intro r9 σ10
  refine r_iast hO s_112 dX7_sends_55 ?_
  refine r_nmW fun σ11 => ?_
  refine r_aload_n (i := 0) hO rfl rfl dX7_sends_56 ?_
  refine gX7_44 hO dX7_sends_57 ?_
  refine r_iload_n (i := 3) hO rfl rfl dX7_sends_60 ?_
  refine r_iconst hO ci_5 dX7_sends_61 ?_
  refine r_iadd hO dX7_sends_62 ?_
  refine r_aload_n (i := 0) hO rfl rfl dX7_sends_63 ?_
  refine gX7_44 hO dX7_sends_64 ?_
  refine r_bipush hO bi_37 dX7_sends_67 ?_
  refine r_iald hO s_112 dX7_sends_69 ?_
  refine r_aload_n (i := 0) hO rfl rfl dX7_sends_70 ?_
  refine r_iload_n (i := 1) hO rfl rfl dX7_sends_71 ?_
  refine r_iconst hO ci_3 dX7_sends_72 ?_
  refine k_X7_told hO a_575 rfl ⟨rfl, rfl, Nat.le_refl _, Nat.le_refl _⟩ dX7_sends_73 ?_
  intro r12 σ13
  refine r_iadd hO dX7_sends_76 ?_
  refine r_iast hO s_112 dX7_sends_77 ?_
  refine r_nmW fun σ14 => ?_
  exact r_vret hO hR dX7_sends_78
theorem c_X7_sends {l : Launch} {G : Gh}   (a1 : Int32) (a2 : Int32) (σ : Wd) : Con l G yX7_sends cX7_sends 4 none 4 91 [.ref (G.A 102), .int a1, .int a2] σ (f_X7_sends a1 a2 σ) := Con.of (plainFor_of_name (by decide)) rfl (Nat.le_of_ble_eq_true rfl) (fun K hl hG hO hR => by subst hl; subst hG; exact b_X7_sends hO hR  a1 a2 σ)
theorem cal_X7_sends : CalV yX7_sends cX7_sends 4 none 2 := ⟨a_773, a_774, a_775, a_464, by decide, by decide, by decide +kernel⟩
theorem k_X7_sends {K : Kt} {nL : Nat} {cs : Nat × Nat} {σ : Wd} {pc : Nat} {lv : List (Nat × Value)} {st : List Value} {cc : ByteArray} {own : String} {rm : Room} {index : Nat} {g : Int32 → Wd → Option (Int32 × Wd)} {a1 : Int32} {a2 : Int32} (hO : Ok K cc own nL rm)  (hl : Cond.methodLink own index yX7_sends ∈ gtb) (hcat : Nat.ble ((st.map fun v => v.category).sum) 8 = true) (hR : RoomOk rm cs 4 91 4) (d : decode cc pc = .ok (.invokevirtual index, 3)) (kk : ∀ (r : Int32) (σ : Wd), Cm K nL cs (g r σ) σ (pc + 3) lv st) : Cm K nL cs (bd (f_X7_sends a1 a2 σ) g) σ pc lv (.int a2 :: .int a1 :: .ref (K.G.A 102) :: st) := r_cVv hO (c_X7_sends  a1 a2 σ) cal_X7_sends hl rfl (by decide) ent_X7 rfl rfl hcat hR d kk
/-! OrderSplitModel.beginsRound -/
def f_X7_beginsRound_17    (σ : Wd) : Option (Int32 × Wd) := some ((0 : Int32), σ)
def f_X7_beginsRound_146  (k112 : Int32 → Int32 → Wd → Option (Int32 × Wd)) (x2 : Int32) (x3 : Int32) (σ : Wd) : Option (Int32 × Wd) := (k112 x2 (x3 + (1 : Int32)) σ)
def f_X7_beginsRound_112   : Nat → Int32 → Int32 → Wd → Option (Int32 × Wd)
  | 0 => fun _ _ _ => none
  | n + 1 => fun x2 x3 σ => if (σ.1 102 14) ≤ x3 then (some (x2, σ)) else (gd (inb x3 5) (if (σ.1 117 (ix x3)) = 0 then (f_X7_beginsRound_146 (f_X7_beginsRound_112 n) x2 x3 σ) else (gd (inb x3 5) (bd (f_X7_sends x3 (σ.1 117 (ix x3)) σ) fun _ σ1 => (f_X7_beginsRound_146 (f_X7_beginsRound_112 n) (x2 + (1 : Int32)) x3 σ1)))))
def f_X7_beginsRound_97    (σ : Wd) : Option (Int32 × Wd) := gd (inb (42 : Int32) 179) (gd (inb (42 : Int32) 179) (nmW (wi σ 112 (ix (42 : Int32)) ((σ.1 112 (ix (42 : Int32))) + (1 : Int32))) fun σ1 => (f_X7_beginsRound_112 FU (0 : Int32) (0 : Int32) σ1)))
def f_X7_beginsRound_68   : Nat → Int32 → Wd → Option (Int32 × Wd)
  | 0 => fun _ _ => none
  | n + 1 => fun x2 σ => if (σ.1 102 14) ≤ x2 then (f_X7_beginsRound_97 σ) else (gd (inb ((43 : Int32) + x2) 179) (gd (inb x2 5) (nmW (wi σ 117 (ix x2) (σ.1 112 (ix ((43 : Int32) + x2)))) fun σ1 => (f_X7_beginsRound_68 n (x2 + (1 : Int32)) σ1))))
def f_X7_beginsRound  (σ : Wd) : Option (Int32 × Wd) := bd (f_X7_isUnderWay σ) fun r1 σ2 => if r1 = 0 then (gd (inb (38 : Int32) 179) (if 0 < (σ2.1 112 (ix (38 : Int32))) then (gd (inb (38 : Int32) 179) (bd (f_X7_laysBest (σ2.1 112 (ix (38 : Int32))) (-1 : Int32) σ2) fun _ σ3 => if (σ3.1 102 37) = 0 then (some ((0 : Int32), σ3)) else (bd (f_X7_planUnits σ3) fun r4 σ5 => gd (inb (42 : Int32) 179) (if (σ5.1 112 (ix (42 : Int32))) = 0 then (if r4 ≤ 0 then (f_X7_beginsRound_97 σ5) else (bd (f_X7_canHavePlan σ5) fun r6 σ7 => if r6 = 0 then (f_X7_beginsRound_97 σ7) else (f_X7_beginsRound_68 FU (0 : Int32) σ7))) else (f_X7_beginsRound_97 σ5))))) else (f_X7_beginsRound_17 σ2))) else (f_X7_beginsRound_17 σ2)
set_option maxRecDepth 20000 in
set_option maxHeartbeats 1000000 in
theorem b_X7_beginsRound_17 {K : Kt}   (hO : Ok K cX7_beginsRound RX7 4 rm_X7_beginsRound) (hR : Rt K (some .int))    (σ : Wd)  : Cm K 4 (0, 0) (f_X7_beginsRound_17   σ) σ 17 [] [] := by
  refine r_iconst hO ci_0 dX7_beginsRound_17 ?_
  exact r_iret hO hR dX7_beginsRound_18
set_option maxRecDepth 20000 in
set_option maxHeartbeats 1000000 in
theorem b_X7_beginsRound_146 {K : Kt}  {k112 : Int32 → Int32 → Wd → Option (Int32 × Wd)} (hO : Ok K cX7_beginsRound RX7 4 rm_X7_beginsRound) (hR : Rt K (some .int))   (hk112 : ∀ (x2 : Int32) (x3 : Int32) (σ : Wd), Cm K 4 (0, 0) (k112 x2 x3 σ) σ 112 [(0, .ref (K.G.A 102)), (2, .int x2), (3, .int x3)] []) (x2 : Int32) (x3 : Int32) (σ : Wd)  : Cm K 4 (0, 0) (f_X7_beginsRound_146 k112 x2 x3 σ) σ 146 [(0, .ref (K.G.A 102)), (2, .int x2), (3, .int x3)] [] := by
  refine r_iinc hO rfl ci_1 rfl rfl dX7_beginsRound_146 ?_
  refine r_goto (tgt := 112) hO dX7_beginsRound_149 (by decide) ?_
  exact r_jmp (hk112 x2 (x3 + (1 : Int32)) σ) (lsub_c rfl (lsub_c rfl (lsub_c rfl lsub_n)))
set_option maxRecDepth 20000 in
set_option maxHeartbeats 1000000 in
theorem b_X7_beginsRound_112 {K : Kt}   (hO : Ok K cX7_beginsRound RX7 4 rm_X7_beginsRound) (hR : Rt K (some .int))   : ∀ (n : Nat) (x2 : Int32) (x3 : Int32) (σ : Wd) , Cm K 4 (0, 0) (f_X7_beginsRound_112  n x2 x3 σ) σ 112 [(0, .ref (K.G.A 102)), (2, .int x2), (3, .int x3)] [] := by
  intro n
  induction n with
  | zero => intro x2 x3 σ ; exact r_none
  | succ n ih =>
    intro x2 x3 σ 
    refine r_iload_n (i := 3) hO rfl rfl dX7_beginsRound_112 ?_
    refine r_aload_n (i := 0) hO rfl rfl dX7_beginsRound_113 ?_
    refine gX7_235 hO dX7_beginsRound_114 ?_
    refine r_icmp_ge (tgt := 152) hO dX7_beginsRound_117 (by decide) ?_ ?_
    · refine r_iload_n (i := 2) hO rfl rfl dX7_beginsRound_152 ?_
      exact r_iret hO hR dX7_beginsRound_153
    · refine r_aload_n (i := 0) hO rfl rfl dX7_beginsRound_120 ?_
      refine gX7_60 hO dX7_beginsRound_121 ?_
      refine r_iload_n (i := 3) hO rfl rfl dX7_beginsRound_124 ?_
      refine r_iald hO s_117 dX7_beginsRound_125 ?_
      refine r_if_ne (tgt := 132) hO dX7_beginsRound_126 (by decide) ?_ ?_
      · refine r_goto (tgt := 146) hO dX7_beginsRound_129 (by decide) ?_
        exact r_jmp (b_X7_beginsRound_146 hO hR ih x2 x3 σ) (lsub_c rfl (lsub_c rfl (lsub_c rfl lsub_n)))
      · refine r_aload_n (i := 0) hO rfl rfl dX7_beginsRound_132 ?_
        refine r_iload_n (i := 3) hO rfl rfl dX7_beginsRound_133 ?_
        refine r_aload_n (i := 0) hO rfl rfl dX7_beginsRound_134 ?_
        refine gX7_60 hO dX7_beginsRound_135 ?_
        refine r_iload_n (i := 3) hO rfl rfl dX7_beginsRound_138 ?_
        refine r_iald hO s_117 dX7_beginsRound_139 ?_
        refine k_X7_sends hO a_777 rfl ⟨rfl, rfl, Nat.le_refl _, Nat.le_refl _⟩ dX7_beginsRound_140 ?_
        intro _ σ1
        refine r_iinc hO rfl ci_1 rfl rfl dX7_beginsRound_143 ?_
        exact r_jmp (b_X7_beginsRound_146 hO hR ih (x2 + (1 : Int32)) x3 σ1) (lsub_c rfl (lsub_c rfl (lsub_c rfl lsub_n)))
set_option maxRecDepth 20000 in
set_option maxHeartbeats 1000000 in
theorem b_X7_beginsRound_97 {K : Kt}   (hO : Ok K cX7_beginsRound RX7 4 rm_X7_beginsRound) (hR : Rt K (some .int))    (σ : Wd)  : Cm K 4 (0, 0) (f_X7_beginsRound_97   σ) σ 97 [(0, .ref (K.G.A 102))] [] := by
  refine r_aload_n (i := 0) hO rfl rfl dX7_beginsRound_97 ?_
  refine gX7_44 hO dX7_beginsRound_98 ?_
  refine r_bipush hO bi_42 dX7_beginsRound_101 ?_
  refine r_dup2 hO rfl rfl dX7_beginsRound_103 ?_
  refine r_iald hO s_112 dX7_beginsRound_104 ?_
  refine r_iconst hO ci_1 dX7_beginsRound_105 ?_
  refine r_iadd hO dX7_beginsRound_106 ?_
  refine r_iast hO s_112 dX7_beginsRound_107 ?_
  refine r_nmW fun σ1 => ?_
  refine r_iconst hO ci_0 dX7_beginsRound_108 ?_
  refine r_istore_n (i := 2) hO rfl rfl rfl dX7_beginsRound_109 ?_
  refine r_iconst hO ci_0 dX7_beginsRound_110 ?_
  refine r_istore_n (i := 3) hO rfl rfl rfl dX7_beginsRound_111 ?_
  exact r_jmp (b_X7_beginsRound_112 hO hR FU (0 : Int32) (0 : Int32) σ1) (lsub_c rfl (lsub_c rfl (lsub_c rfl lsub_n)))
set_option maxRecDepth 20000 in
set_option maxHeartbeats 1000000 in
theorem b_X7_beginsRound_68 {K : Kt}   (hO : Ok K cX7_beginsRound RX7 4 rm_X7_beginsRound) (hR : Rt K (some .int))   : ∀ (n : Nat) (x2 : Int32) (σ : Wd) , Cm K 4 (0, 0) (f_X7_beginsRound_68  n x2 σ) σ 68 [(0, .ref (K.G.A 102)), (2, .int x2)] [] := by
  intro n
  induction n with
  | zero => intro x2 σ ; exact r_none
  | succ n ih =>
    intro x2 σ 
    refine r_iload_n (i := 2) hO rfl rfl dX7_beginsRound_68 ?_
    refine r_aload_n (i := 0) hO rfl rfl dX7_beginsRound_69 ?_
    refine gX7_235 hO dX7_beginsRound_70 ?_
    refine r_icmp_ge (tgt := 97) hO dX7_beginsRound_73 (by decide) ?_ ?_
    · exact r_jmp (b_X7_beginsRound_97 hO hR σ) (lsub_c rfl lsub_n)
    · refine r_aload_n (i := 0) hO rfl rfl dX7_beginsRound_76 ?_
      refine gX7_60 hO dX7_beginsRound_77 ?_
      refine r_iload_n (i := 2) hO rfl rfl dX7_beginsRound_80 ?_
      refine r_aload_n (i := 0) hO rfl rfl dX7_beginsRound_81 ?_
      refine gX7_44 hO dX7_beginsRound_82 ?_
      refine r_bipush hO bi_43 dX7_beginsRound_85 ?_
      refine r_iload_n (i := 2) hO rfl rfl dX7_beginsRound_87 ?_
      refine r_iadd hO dX7_beginsRound_88 ?_
      refine r_iald hO s_112 dX7_beginsRound_89 ?_
      refine r_iast hO s_117 dX7_beginsRound_90 ?_
      refine r_nmW fun σ1 => ?_
      refine r_iinc hO rfl ci_1 rfl rfl dX7_beginsRound_91 ?_
      refine r_goto (tgt := 68) hO dX7_beginsRound_94 (by decide) ?_
      exact r_jmp (ih (x2 + (1 : Int32)) σ1) (lsub_c rfl (lsub_c rfl lsub_n))
set_option maxRecDepth 20000 in
set_option maxHeartbeats 1000000 in
theorem b_X7_beginsRound {K : Kt}  (hO : Ok K cX7_beginsRound RX7 4 rm_X7_beginsRound) (hR : Rt K (some .int))   (σ : Wd) : Cm K 4 (0, 0) (f_X7_beginsRound  σ) σ 0 [(0, .ref (K.G.A 102))] [] := by
  refine r_aload_n (i := 0) hO rfl rfl dX7_beginsRound_0 ?_
  refine k_X7_isUnderWay hO a_776 rfl ⟨rfl, rfl, Nat.le_refl _, Nat.le_refl _⟩ dX7_beginsRound_1 ?_
  intro r1 σ2
  refine r_if_ne (tgt := 17) hO dX7_beginsRound_4 (by decide) ?_ ?_
  · refine r_aload_n (i := 0) hO rfl rfl dX7_beginsRound_7 ?_
    refine gX7_44 hO dX7_beginsRound_8 ?_
    refine r_bipush hO bi_38 dX7_beginsRound_11 ?_
    refine r_iald hO s_112 dX7_beginsRound_13 ?_
    refine r_if_gt (tgt := 19) hO dX7_beginsRound_14 (by decide) ?_ ?_
    · refine r_aload_n (i := 0) hO rfl rfl dX7_beginsRound_19 ?_
      refine r_aload_n (i := 0) hO rfl rfl dX7_beginsRound_20 ?_
      refine gX7_44 hO dX7_beginsRound_21 ?_
      refine r_bipush hO bi_38 dX7_beginsRound_24 ?_
      refine r_iald hO s_112 dX7_beginsRound_26 ?_
      refine r_iconst hO ci_m1 dX7_beginsRound_27 ?_
      refine k_X7_laysBest hO a_686 rfl ⟨rfl, rfl, Nat.le_refl _, Nat.le_refl _⟩ dX7_beginsRound_28 ?_
      intro _ σ3
      refine r_aload_n (i := 0) hO rfl rfl dX7_beginsRound_31 ?_
      refine gX7_305 hO dX7_beginsRound_32 ?_
      refine r_if_ne (tgt := 40) hO dX7_beginsRound_35 (by decide) ?_ ?_
      · refine r_iconst hO ci_0 dX7_beginsRound_38 ?_
        exact r_iret hO hR dX7_beginsRound_39
      · refine r_aload_n (i := 0) hO rfl rfl dX7_beginsRound_40 ?_
        refine k_X7_planUnits hO a_741 rfl ⟨rfl, rfl, Nat.le_refl _, Nat.le_refl _⟩ dX7_beginsRound_41 ?_
        intro r4 σ5
        refine r_istore_n (i := 1) hO rfl rfl rfl dX7_beginsRound_44 ?_
        refine r_aload_n (i := 0) hO rfl rfl dX7_beginsRound_45 ?_
        refine gX7_44 hO dX7_beginsRound_46 ?_
        refine r_bipush hO bi_42 dX7_beginsRound_49 ?_
        refine r_iald hO s_112 dX7_beginsRound_51 ?_
        refine r_if_ne (tgt := 97) hO dX7_beginsRound_52 (by decide) ?_ ?_
        · refine r_iload_n (i := 1) hO rfl rfl dX7_beginsRound_55 ?_
          refine r_if_le (tgt := 97) hO dX7_beginsRound_56 (by decide) ?_ ?_
          · exact r_jmp (b_X7_beginsRound_97 hO hR σ5) (lsub_c rfl lsub_n)
          · refine r_aload_n (i := 0) hO rfl rfl dX7_beginsRound_59 ?_
            refine k_X7_canHavePlan hO a_751 rfl ⟨rfl, rfl, Nat.le_refl _, Nat.le_refl _⟩ dX7_beginsRound_60 ?_
            intro r6 σ7
            refine r_if_eq (tgt := 97) hO dX7_beginsRound_63 (by decide) ?_ ?_
            · exact r_jmp (b_X7_beginsRound_97 hO hR σ7) (lsub_c rfl lsub_n)
            · refine r_iconst hO ci_0 dX7_beginsRound_66 ?_
              refine r_istore_n (i := 2) hO rfl rfl rfl dX7_beginsRound_67 ?_
              exact r_jmp (b_X7_beginsRound_68 hO hR FU (0 : Int32) σ7) (lsub_c rfl (lsub_c rfl lsub_n))
        · exact r_jmp (b_X7_beginsRound_97 hO hR σ5) (lsub_c rfl lsub_n)
    · exact r_jmp (b_X7_beginsRound_17 hO hR σ2) lsub_n
  · exact r_jmp (b_X7_beginsRound_17 hO hR σ2) lsub_n
theorem c_X7_beginsRound {l : Launch} {G : Gh}    (σ : Wd) : Con l G yX7_beginsRound cX7_beginsRound 4 (some .int) 7 163 [.ref (G.A 102)] σ (f_X7_beginsRound  σ) := Con.of (plainFor_of_name (by decide)) rfl (Nat.le_of_ble_eq_true rfl) (fun K hl hG hO hR => by subst hl; subst hG; exact b_X7_beginsRound hO hR   σ)
theorem cal_X7_beginsRound : CalV yX7_beginsRound cX7_beginsRound 4 (some .int) 0 := ⟨a_778, a_779, a_780, a_464, by decide, by decide, by decide +kernel⟩
theorem k_X7_beginsRound {K : Kt} {nL : Nat} {cs : Nat × Nat} {σ : Wd} {pc : Nat} {lv : List (Nat × Value)} {st : List Value} {cc : ByteArray} {own : String} {rm : Room} {index : Nat} {g : Int32 → Wd → Option (Int32 × Wd)}  (hO : Ok K cc own nL rm)  (hl : Cond.methodLink own index yX7_beginsRound ∈ gtb) (hcat : Nat.ble ((st.map fun v => v.category).sum) 8 = true) (hR : RoomOk rm cs 7 163 4) (d : decode cc pc = .ok (.invokevirtual index, 3)) (kk : ∀ (r : Int32) (σ : Wd), Cm K nL cs (g r σ) σ (pc + 3) lv (.int r :: st)) : Cm K nL cs (bd (f_X7_beginsRound  σ) g) σ pc lv (.ref (K.G.A 102) :: st) := r_cVi hO (c_X7_beginsRound   σ) cal_X7_beginsRound hl rfl (by decide) ent_X7 rfl rfl hcat hR d kk
/-! OrderSplitModel.notes -/
def f_X7_notes_60  (k7 : Int32 → Int32 → Int32 → Int32 → Int32 → Wd → Option (Int32 × Wd)) (x1 : Int32) (x2 : Int32) (x3 : Int32) (x4 : Int32) (x5 : Int32) (σ : Wd) : Option (Int32 × Wd) := (k7 x1 x2 x3 (x4 + (3 : Int32)) (x5 + (1 : Int32)) σ)
def f_X7_notes_7   : Nat → Int32 → Int32 → Int32 → Int32 → Int32 → Wd → Option (Int32 × Wd)
  | 0 => fun _ _ _ _ _ _ => none
  | n + 1 => fun x1 x2 x3 x4 x5 σ => gd (inb (88 : Int32) 179) (if (σ.1 112 (ix (88 : Int32))) ≤ x5 then (gd (inb x4 179) (nmW (wi σ 112 (ix x4) x1) fun σ1 => gd (inb (x4 + (1 : Int32)) 179) (nmW (wi σ1 112 (ix (x4 + (1 : Int32))) x2) fun σ2 => gd (inb (x4 + (2 : Int32)) 179) (nmW (wi σ2 112 (ix (x4 + (2 : Int32))) x3) fun σ3 => gd (inb (88 : Int32) 179) (gd (inb (88 : Int32) 179) (nmW (wi σ3 112 (ix (88 : Int32)) ((σ3.1 112 (ix (88 : Int32))) + (1 : Int32))) fun σ4 => some (0, σ4))))))) else (gd (inb x4 179) (if (σ.1 112 (ix x4)) = x1 then (gd (inb (x4 + (1 : Int32)) 179) (if (σ.1 112 (ix (x4 + (1 : Int32)))) = x2 then (gd (inb (x4 + (2 : Int32)) 179) (gd (inb (x4 + (2 : Int32)) 179) (nmW (wi σ 112 (ix (x4 + (2 : Int32))) ((σ.1 112 (ix (x4 + (2 : Int32)))) + x3)) fun σ5 => some (0, σ5)))) else (f_X7_notes_60 (f_X7_notes_7 n) x1 x2 x3 x4 x5 σ))) else (f_X7_notes_60 (f_X7_notes_7 n) x1 x2 x3 x4 x5 σ))))
def f_X7_notes (a1 : Int32) (a2 : Int32) (a3 : Int32) (σ : Wd) : Option (Int32 × Wd) := (f_X7_notes_7 FU a1 a2 a3 (89 : Int32) (0 : Int32) σ)
set_option maxRecDepth 20000 in
set_option maxHeartbeats 1000000 in
theorem b_X7_notes_60 {K : Kt}  {k7 : Int32 → Int32 → Int32 → Int32 → Int32 → Wd → Option (Int32 × Wd)} (hO : Ok K cX7_notes RX7 6 rm_X7_notes) (hR : Rt K none)   (hk7 : ∀ (x1 : Int32) (x2 : Int32) (x3 : Int32) (x4 : Int32) (x5 : Int32) (σ : Wd), Cm K 6 (0, 0) (k7 x1 x2 x3 x4 x5 σ) σ 7 [(0, .ref (K.G.A 102)), (1, .int x1), (2, .int x2), (3, .int x3), (4, .int x4), (5, .int x5)] []) (x1 : Int32) (x2 : Int32) (x3 : Int32) (x4 : Int32) (x5 : Int32) (σ : Wd)  : Cm K 6 (0, 0) (f_X7_notes_60 k7 x1 x2 x3 x4 x5 σ) σ 60 [(0, .ref (K.G.A 102)), (1, .int x1), (2, .int x2), (3, .int x3), (4, .int x4), (5, .int x5)] [] := by
  refine r_iinc hO rfl ci_1 rfl rfl dX7_notes_60 ?_
  refine r_iinc hO rfl ci_3 rfl rfl dX7_notes_63 ?_
  refine r_goto (tgt := 7) hO dX7_notes_66 (by decide) ?_
  exact r_jmp (hk7 x1 x2 x3 (x4 + (3 : Int32)) (x5 + (1 : Int32)) σ) (lsub_c rfl (lsub_c rfl (lsub_c rfl (lsub_c rfl (lsub_c rfl (lsub_c rfl lsub_n))))))
set_option maxRecDepth 20000 in
set_option maxHeartbeats 1000000 in
theorem b_X7_notes_7 {K : Kt}   (hO : Ok K cX7_notes RX7 6 rm_X7_notes) (hR : Rt K none)   : ∀ (n : Nat) (x1 : Int32) (x2 : Int32) (x3 : Int32) (x4 : Int32) (x5 : Int32) (σ : Wd) , Cm K 6 (0, 0) (f_X7_notes_7  n x1 x2 x3 x4 x5 σ) σ 7 [(0, .ref (K.G.A 102)), (1, .int x1), (2, .int x2), (3, .int x3), (4, .int x4), (5, .int x5)] [] := by
  intro n
  induction n with
  | zero => intro x1 x2 x3 x4 x5 σ ; exact r_none
  | succ n ih =>
    intro x1 x2 x3 x4 x5 σ 
    rw [f_X7_notes_7]
    refine r_iload hO (d := dX7_notes_7) rfl ?_
    refine r_aload_n (i := 0) hO rfl rfl dX7_notes_9 ?_
    refine gX7_44 hO dX7_notes_10 ?_
    refine r_bipush hO bi_88 dX7_notes_13 ?_
    refine r_iald hO s_112 dX7_notes_15 ?_
    refine r_icmp_ge (tgt := 69) hO dX7_notes_16 (by decide) ?_ ?_
    · refine r_aload_n (i := 0) hO rfl rfl dX7_notes_69 ?_
      refine gX7_44 hO dX7_notes_70 ?_
      refine r_iload hO (d := dX7_notes_73) rfl ?_
      refine r_iload_n (i := 1) hO rfl rfl dX7_notes_75 ?_
      refine r_iast hO s_112 dX7_notes_76 ?_
      refine r_nmW fun σ1 => ?_
      refine r_aload_n (i := 0) hO rfl rfl dX7_notes_77 ?_
      refine gX7_44 hO dX7_notes_78 ?_
      refine r_iload hO (d := dX7_notes_81) rfl ?_
      refine r_iconst hO ci_1 dX7_notes_83 ?_
      refine r_iadd hO dX7_notes_84 ?_
      refine r_iload_n (i := 2) hO rfl rfl dX7_notes_85 ?_
      refine r_iast hO s_112 dX7_notes_86 ?_
      refine r_nmW fun σ2 => ?_
      refine r_aload_n (i := 0) hO rfl rfl dX7_notes_87 ?_
      refine gX7_44 hO dX7_notes_88 ?_
      refine r_iload hO (d := dX7_notes_91) rfl ?_
      refine r_iconst hO ci_2 dX7_notes_93 ?_
      refine r_iadd hO dX7_notes_94 ?_
      refine r_iload_n (i := 3) hO rfl rfl dX7_notes_95 ?_
      refine r_iast hO s_112 dX7_notes_96 ?_
      refine r_nmW fun σ3 => ?_
      refine r_aload_n (i := 0) hO rfl rfl dX7_notes_97 ?_
      refine gX7_44 hO dX7_notes_98 ?_
      refine r_bipush hO bi_88 dX7_notes_101 ?_
      refine r_dup2 hO rfl rfl dX7_notes_103 ?_
      refine r_iald hO s_112 dX7_notes_104 ?_
      refine r_iconst hO ci_1 dX7_notes_105 ?_
      refine r_iadd hO dX7_notes_106 ?_
      refine r_iast hO s_112 dX7_notes_107 ?_
      refine r_nmW fun σ4 => ?_
      exact r_vret hO hR dX7_notes_108
    · refine r_aload_n (i := 0) hO rfl rfl dX7_notes_19 ?_
      refine gX7_44 hO dX7_notes_20 ?_
      refine r_iload hO (d := dX7_notes_23) rfl ?_
      refine r_iald hO s_112 dX7_notes_25 ?_
      refine r_iload_n (i := 1) hO rfl rfl dX7_notes_26 ?_
      refine r_icmp_ne (tgt := 60) hO dX7_notes_27 (by decide) ?_ ?_
      · refine r_aload_n (i := 0) hO rfl rfl dX7_notes_30 ?_
        refine gX7_44 hO dX7_notes_31 ?_
        refine r_iload hO (d := dX7_notes_34) rfl ?_
        refine r_iconst hO ci_1 dX7_notes_36 ?_
        refine r_iadd hO dX7_notes_37 ?_
        refine r_iald hO s_112 dX7_notes_38 ?_
        refine r_iload_n (i := 2) hO rfl rfl dX7_notes_39 ?_
        refine r_icmp_eq (tgt := 46) hO dX7_notes_40 (by decide) ?_ ?_
        · refine r_aload_n (i := 0) hO rfl rfl dX7_notes_46 ?_
          refine gX7_44 hO dX7_notes_47 ?_
          refine r_iload hO (d := dX7_notes_50) rfl ?_
          refine r_iconst hO ci_2 dX7_notes_52 ?_
          refine r_iadd hO dX7_notes_53 ?_
          refine r_dup2 hO rfl rfl dX7_notes_54 ?_
          refine r_iald hO s_112 dX7_notes_55 ?_
          refine r_iload_n (i := 3) hO rfl rfl dX7_notes_56 ?_
          refine r_iadd hO dX7_notes_57 ?_
          refine r_iast hO s_112 dX7_notes_58 ?_
          refine r_nmW fun σ5 => ?_
          exact r_vret hO hR dX7_notes_59
        · refine r_goto (tgt := 60) hO dX7_notes_43 (by decide) ?_
          exact r_jmp (b_X7_notes_60 hO hR ih x1 x2 x3 x4 x5 σ) (lsub_c rfl (lsub_c rfl (lsub_c rfl (lsub_c rfl (lsub_c rfl (lsub_c rfl lsub_n))))))
      · exact r_jmp (b_X7_notes_60 hO hR ih x1 x2 x3 x4 x5 σ) (lsub_c rfl (lsub_c rfl (lsub_c rfl (lsub_c rfl (lsub_c rfl (lsub_c rfl lsub_n))))))
set_option maxRecDepth 20000 in
set_option maxHeartbeats 1000000 in
theorem b_X7_notes {K : Kt}  (hO : Ok K cX7_notes RX7 6 rm_X7_notes) (hR : Rt K none)  (a1 : Int32) (a2 : Int32) (a3 : Int32) (σ : Wd) : Cm K 6 (0, 0) (f_X7_notes a1 a2 a3 σ) σ 0 [(0, .ref (K.G.A 102)), (1, .int a1), (2, .int a2), (3, .int a3)] [] := by
  refine r_bipush hO bi_89 dX7_notes_0 ?_
  refine r_istore hO rfl rfl dX7_notes_2 ?_
  refine r_iconst hO ci_0 dX7_notes_4 ?_
  refine r_istore hO rfl rfl dX7_notes_5 ?_
  exact r_jmp (b_X7_notes_7 hO hR FU a1 a2 a3 (89 : Int32) (0 : Int32) σ) (lsub_c rfl (lsub_c rfl (lsub_c rfl (lsub_c rfl (lsub_c rfl (lsub_c rfl lsub_n))))))
theorem c_X7_notes {l : Launch} {G : Gh}   (a1 : Int32) (a2 : Int32) (a3 : Int32) (σ : Wd) : Con l G yX7_notes cX7_notes 6 none 0 0 [.ref (G.A 102), .int a1, .int a2, .int a3] σ (f_X7_notes a1 a2 a3 σ) := Con.of (plainFor_of_name (by decide)) rfl (Nat.le_of_ble_eq_true rfl) (fun K hl hG hO hR => by subst hl; subst hG; exact b_X7_notes hO hR  a1 a2 a3 σ)
theorem cal_X7_notes : CalV yX7_notes cX7_notes 6 none 3 := ⟨a_781, a_782, a_783, a_464, by decide, by decide, by decide +kernel⟩
theorem k_X7_notes {K : Kt} {nL : Nat} {cs : Nat × Nat} {σ : Wd} {pc : Nat} {lv : List (Nat × Value)} {st : List Value} {cc : ByteArray} {own : String} {rm : Room} {index : Nat} {g : Int32 → Wd → Option (Int32 × Wd)} {a1 : Int32} {a2 : Int32} {a3 : Int32} (hO : Ok K cc own nL rm)  (hl : Cond.methodLink own index yX7_notes ∈ gtb) (hcat : Nat.ble ((st.map fun v => v.category).sum) 8 = true) (hR : RoomOk rm cs 0 0 6) (d : decode cc pc = .ok (.invokevirtual index, 3)) (kk : ∀ (r : Int32) (σ : Wd), Cm K nL cs (g r σ) σ (pc + 3) lv st) : Cm K nL cs (bd (f_X7_notes a1 a2 a3 σ) g) σ pc lv (.int a3 :: .int a2 :: .int a1 :: .ref (K.G.A 102) :: st) := r_cVv hO (c_X7_notes  a1 a2 a3 σ) cal_X7_notes hl rfl (by decide) ent_X7 rfl rfl hcat hR d kk
/-! OrderSplitModel.buys -/
def f_X7_buys_202  (k71 : Int32 → Int32 → Int32 → Int32 → Int32 → Wd → Option (Int32 × Wd)) (x1 : Int32) (x2 : Int32) (x5 : Int32) (x6 : Int32) (x7 : Int32) (σ : Wd) : Option (Int32 × Wd) := (k71 x1 x2 x5 x6 (x7 + (1 : Int32)) σ)
def f_X7_buys_110  (k71 : Int32 → Int32 → Int32 → Int32 → Int32 → Wd → Option (Int32 × Wd)) (x1 : Int32) (x2 : Int32) (x5 : Int32) (x6 : Int32) (x7 : Int32) (s0 : Int32) (σ : Wd) : Option (Int32 × Wd) := if s0 = 0 then (f_X7_buys_202 k71 x1 x2 x5 x6 x7 σ) else (gd (inb (((0 : Int32) + ((6 : Int32) * x1)) + x7) 179) (gd (inb (((0 : Int32) + ((6 : Int32) * x1)) + x7) 179) (nmW (wi σ 112 (ix (((0 : Int32) + ((6 : Int32) * x1)) + x7)) ((σ.1 112 (ix (((0 : Int32) + ((6 : Int32) * x1)) + x7))) - s0)) fun σ1 => gd (inb (x2 + (7 : Int32)) 179) (bd (f_X7_priceOf x1 x7 σ1) fun r2 σ3 => gd (inb (x2 + (7 : Int32)) 179) (nmW (wi σ3 112 (ix (x2 + (7 : Int32))) ((σ1.1 112 (ix (x2 + (7 : Int32)))) + (s0 * r2))) fun σ4 => gd (inb (40 : Int32) 179) (bd (f_X7_priceOf x1 x7 σ4) fun r5 σ6 => gd (inb (40 : Int32) 179) (nmW (wi σ6 112 (ix (40 : Int32)) ((σ4.1 112 (ix (40 : Int32))) + (s0 * r5))) fun σ7 => bd (f_X7_priceOf x1 x7 σ7) fun r8 σ9 => bd (f_X7_notes x1 r8 s0 σ9) fun _ σ10 => (f_X7_buys_202 k71 x1 x2 x5 (x6 - s0) x7 σ10))))))))
def f_X7_buys_208   (x2 : Int32) (x5 : Int32) (σ : Wd) : Option (Int32 × Wd) := gd (inb (x2 + (2 : Int32)) 179) (gd (inb (x2 + (2 : Int32)) 179) (nmW (wi σ 112 (ix (x2 + (2 : Int32))) ((σ.1 112 (ix (x2 + (2 : Int32)))) + x5)) fun σ1 => gd (inb (39 : Int32) 179) (gd (inb (39 : Int32) 179) (nmW (wi σ1 112 (ix (39 : Int32)) ((σ1.1 112 (ix (39 : Int32))) + x5)) fun σ2 => some (x5, σ2)))))
def f_X7_buys_71   : Nat → Int32 → Int32 → Int32 → Int32 → Int32 → Wd → Option (Int32 × Wd)
  | 0 => fun _ _ _ _ _ _ => none
  | n + 1 => fun x1 x2 x5 x6 x7 σ => bd (f_X7_levels x1 σ) fun r1 σ2 => if r1 ≤ x7 then (f_X7_buys_208 x2 x5 σ2) else (if x6 ≤ 0 then (f_X7_buys_208 x2 x5 σ2) else (bd (f_X7_sizeOf x1 x7 σ2) fun r3 σ4 => if r3 ≤ x6 then (bd (f_X7_sizeOf x1 x7 σ4) fun r5 σ6 => (f_X7_buys_110 (f_X7_buys_71 n) x1 x2 x5 x6 x7 r5 σ6)) else (f_X7_buys_110 (f_X7_buys_71 n) x1 x2 x5 x6 x7 x6 σ4)))
def f_X7_buys_50   (x1 : Int32) (x2 : Int32) (s0 : Int32) (σ : Wd) : Option (Int32 × Wd) := bd (f_X7_lot x1 σ) fun r1 σ2 => gd (!decide (r1 = 0)) (bd (f_X7_lot x1 σ2) fun r3 σ4 => (f_X7_buys_71 FU x1 x2 ((s0 / r1) * r3) ((s0 / r1) * r3) (0 : Int32) σ4))
def f_X7_buys (a1 : Int32) (σ : Wd) : Option (Int32 × Wd) := bd (f_X7_partAt a1 σ) fun r1 σ2 => gd (inb (r1 + (1 : Int32)) 179) (gd (inb (r1 + (2 : Int32)) 179) (gd (inb (r1 + (4 : Int32)) 179) (bd (f_X7_unitsTo a1 (σ2.1 112 (ix (r1 + (4 : Int32)))) σ2) fun r3 σ4 => if r3 ≤ ((σ2.1 112 (ix (r1 + (1 : Int32)))) - (σ2.1 112 (ix (r1 + (2 : Int32))))) then (f_X7_buys_50 a1 r1 r3 σ4) else (f_X7_buys_50 a1 r1 ((σ2.1 112 (ix (r1 + (1 : Int32)))) - (σ2.1 112 (ix (r1 + (2 : Int32))))) σ4))))
set_option maxRecDepth 20000 in
set_option maxHeartbeats 1000000 in
theorem b_X7_buys_202 {K : Kt}  {k71 : Int32 → Int32 → Int32 → Int32 → Int32 → Wd → Option (Int32 × Wd)} (hO : Ok K cX7_buys RX7 9 rm_X7_buys) (hR : Rt K (some .int))   (hk71 : ∀ (x1 : Int32) (x2 : Int32) (x5 : Int32) (x6 : Int32) (x7 : Int32) (σ : Wd), Cm K 9 (0, 0) (k71 x1 x2 x5 x6 x7 σ) σ 71 [(0, .ref (K.G.A 102)), (1, .int x1), (2, .int x2), (5, .int x5), (6, .int x6), (7, .int x7)] []) (x1 : Int32) (x2 : Int32) (x5 : Int32) (x6 : Int32) (x7 : Int32) (σ : Wd)  : Cm K 9 (0, 0) (f_X7_buys_202 k71 x1 x2 x5 x6 x7 σ) σ 202 [(0, .ref (K.G.A 102)), (1, .int x1), (2, .int x2), (5, .int x5), (6, .int x6), (7, .int x7)] [] := by
  refine r_iinc hO rfl ci_1 rfl rfl dX7_buys_202 ?_
  refine r_goto (tgt := 71) hO dX7_buys_205 (by decide) ?_
  exact r_jmp (hk71 x1 x2 x5 x6 (x7 + (1 : Int32)) σ) (lsub_c rfl (lsub_c rfl (lsub_c rfl (lsub_c rfl (lsub_c rfl (lsub_c rfl lsub_n))))))
set_option maxRecDepth 20000 in
set_option maxHeartbeats 1000000 in
theorem b_X7_buys_110 {K : Kt}  {k71 : Int32 → Int32 → Int32 → Int32 → Int32 → Wd → Option (Int32 × Wd)} (hO : Ok K cX7_buys RX7 9 rm_X7_buys) (hR : Rt K (some .int))   (hk71 : ∀ (x1 : Int32) (x2 : Int32) (x5 : Int32) (x6 : Int32) (x7 : Int32) (σ : Wd), Cm K 9 (0, 0) (k71 x1 x2 x5 x6 x7 σ) σ 71 [(0, .ref (K.G.A 102)), (1, .int x1), (2, .int x2), (5, .int x5), (6, .int x6), (7, .int x7)] []) (x1 : Int32) (x2 : Int32) (x5 : Int32) (x6 : Int32) (x7 : Int32) (s0 : Int32) (σ : Wd)  : Cm K 9 (0, 0) (f_X7_buys_110 k71 x1 x2 x5 x6 x7 s0 σ) σ 110 [(0, .ref (K.G.A 102)), (1, .int x1), (2, .int x2), (5, .int x5), (6, .int x6), (7, .int x7)] [.int s0] := by
  refine r_istore hO rfl rfl dX7_buys_110 ?_
  refine r_iload hO (d := dX7_buys_112) rfl ?_
  refine r_if_ne (tgt := 120) hO dX7_buys_114 (by decide) ?_ ?_
  · refine r_goto (tgt := 202) hO dX7_buys_117 (by decide) ?_
    exact r_jmp (b_X7_buys_202 hO hR hk71 x1 x2 x5 x6 x7 σ) (lsub_c rfl (lsub_c rfl (lsub_c rfl (lsub_c rfl (lsub_c rfl (lsub_c rfl lsub_n))))))
  · refine r_aload_n (i := 0) hO rfl rfl dX7_buys_120 ?_
    refine gX7_44 hO dX7_buys_121 ?_
    refine r_iconst hO ci_0 dX7_buys_124 ?_
    refine r_bipush hO bi_6 dX7_buys_125 ?_
    refine r_iload_n (i := 1) hO rfl rfl dX7_buys_127 ?_
    refine r_imul hO dX7_buys_128 ?_
    refine r_iadd hO dX7_buys_129 ?_
    refine r_iload hO (d := dX7_buys_130) rfl ?_
    refine r_iadd hO dX7_buys_132 ?_
    refine r_dup2 hO rfl rfl dX7_buys_133 ?_
    refine r_iald hO s_112 dX7_buys_134 ?_
    refine r_iload hO (d := dX7_buys_135) rfl ?_
    refine r_isub hO dX7_buys_137 ?_
    refine r_iast hO s_112 dX7_buys_138 ?_
    refine r_nmW fun σ1 => ?_
    refine r_aload_n (i := 0) hO rfl rfl dX7_buys_139 ?_
    refine gX7_44 hO dX7_buys_140 ?_
    refine r_iload_n (i := 2) hO rfl rfl dX7_buys_143 ?_
    refine r_bipush hO bi_7 dX7_buys_144 ?_
    refine r_iadd hO dX7_buys_146 ?_
    refine r_dup2 hO rfl rfl dX7_buys_147 ?_
    refine r_iald hO s_112 dX7_buys_148 ?_
    refine r_iload hO (d := dX7_buys_149) rfl ?_
    refine r_aload_n (i := 0) hO rfl rfl dX7_buys_151 ?_
    refine r_iload_n (i := 1) hO rfl rfl dX7_buys_152 ?_
    refine r_iload hO (d := dX7_buys_153) rfl ?_
    refine k_X7_priceOf hO a_617 rfl ⟨rfl, rfl, Nat.le_refl _, Nat.le_refl _⟩ dX7_buys_155 ?_
    intro r2 σ3
    refine r_imul hO dX7_buys_158 ?_
    refine r_iadd hO dX7_buys_159 ?_
    refine r_iast hO s_112 dX7_buys_160 ?_
    refine r_nmW fun σ4 => ?_
    refine r_aload_n (i := 0) hO rfl rfl dX7_buys_161 ?_
    refine gX7_44 hO dX7_buys_162 ?_
    refine r_bipush hO bi_40 dX7_buys_165 ?_
    refine r_dup2 hO rfl rfl dX7_buys_167 ?_
    refine r_iald hO s_112 dX7_buys_168 ?_
    refine r_iload hO (d := dX7_buys_169) rfl ?_
    refine r_aload_n (i := 0) hO rfl rfl dX7_buys_171 ?_
    refine r_iload_n (i := 1) hO rfl rfl dX7_buys_172 ?_
    refine r_iload hO (d := dX7_buys_173) rfl ?_
    refine k_X7_priceOf hO a_617 rfl ⟨rfl, rfl, Nat.le_refl _, Nat.le_refl _⟩ dX7_buys_175 ?_
    intro r5 σ6
    refine r_imul hO dX7_buys_178 ?_
    refine r_iadd hO dX7_buys_179 ?_
    refine r_iast hO s_112 dX7_buys_180 ?_
    refine r_nmW fun σ7 => ?_
    refine r_aload_n (i := 0) hO rfl rfl dX7_buys_181 ?_
    refine r_iload_n (i := 1) hO rfl rfl dX7_buys_182 ?_
    refine r_aload_n (i := 0) hO rfl rfl dX7_buys_183 ?_
    refine r_iload_n (i := 1) hO rfl rfl dX7_buys_184 ?_
    refine r_iload hO (d := dX7_buys_185) rfl ?_
    refine k_X7_priceOf hO a_617 rfl ⟨rfl, rfl, Nat.le_refl _, Nat.le_refl _⟩ dX7_buys_187 ?_
    intro r8 σ9
    refine r_iload hO (d := dX7_buys_190) rfl ?_
    refine k_X7_notes hO a_784 rfl ⟨rfl, rfl, Nat.le_refl _, Nat.le_refl _⟩ dX7_buys_192 ?_
    intro _ σ10
    refine r_iload hO (d := dX7_buys_195) rfl ?_
    refine r_iload hO (d := dX7_buys_197) rfl ?_
    refine r_isub hO dX7_buys_199 ?_
    refine r_istore hO rfl rfl dX7_buys_200 ?_
    exact r_jmp (b_X7_buys_202 hO hR hk71 x1 x2 x5 (x6 - s0) x7 σ10) (lsub_c rfl (lsub_c rfl (lsub_c rfl (lsub_c rfl (lsub_c rfl (lsub_c rfl lsub_n))))))
set_option maxRecDepth 20000 in
set_option maxHeartbeats 1000000 in
theorem b_X7_buys_208 {K : Kt}   (hO : Ok K cX7_buys RX7 9 rm_X7_buys) (hR : Rt K (some .int))   (x2 : Int32) (x5 : Int32) (σ : Wd)  : Cm K 9 (0, 0) (f_X7_buys_208  x2 x5 σ) σ 208 [(0, .ref (K.G.A 102)), (2, .int x2), (5, .int x5)] [] := by
  refine r_aload_n (i := 0) hO rfl rfl dX7_buys_208 ?_
  refine gX7_44 hO dX7_buys_209 ?_
  refine r_iload_n (i := 2) hO rfl rfl dX7_buys_212 ?_
  refine r_iconst hO ci_2 dX7_buys_213 ?_
  refine r_iadd hO dX7_buys_214 ?_
  refine r_dup2 hO rfl rfl dX7_buys_215 ?_
  refine r_iald hO s_112 dX7_buys_216 ?_
  refine r_iload hO (d := dX7_buys_217) rfl ?_
  refine r_iadd hO dX7_buys_219 ?_
  refine r_iast hO s_112 dX7_buys_220 ?_
  refine r_nmW fun σ1 => ?_
  refine r_aload_n (i := 0) hO rfl rfl dX7_buys_221 ?_
  refine gX7_44 hO dX7_buys_222 ?_
  refine r_bipush hO bi_39 dX7_buys_225 ?_
  refine r_dup2 hO rfl rfl dX7_buys_227 ?_
  refine r_iald hO s_112 dX7_buys_228 ?_
  refine r_iload hO (d := dX7_buys_229) rfl ?_
  refine r_iadd hO dX7_buys_231 ?_
  refine r_iast hO s_112 dX7_buys_232 ?_
  refine r_nmW fun σ2 => ?_
  refine r_iload hO (d := dX7_buys_233) rfl ?_
  exact r_iret hO hR dX7_buys_235
set_option maxRecDepth 20000 in
set_option maxHeartbeats 1000000 in
theorem b_X7_buys_71 {K : Kt}   (hO : Ok K cX7_buys RX7 9 rm_X7_buys) (hR : Rt K (some .int))   : ∀ (n : Nat) (x1 : Int32) (x2 : Int32) (x5 : Int32) (x6 : Int32) (x7 : Int32) (σ : Wd) , Cm K 9 (0, 0) (f_X7_buys_71  n x1 x2 x5 x6 x7 σ) σ 71 [(0, .ref (K.G.A 102)), (1, .int x1), (2, .int x2), (5, .int x5), (6, .int x6), (7, .int x7)] [] := by
  intro n
  induction n with
  | zero => intro x1 x2 x5 x6 x7 σ ; exact r_none
  | succ n ih =>
    intro x1 x2 x5 x6 x7 σ 
    refine r_iload hO (d := dX7_buys_71) rfl ?_
    refine r_aload_n (i := 0) hO rfl rfl dX7_buys_73 ?_
    refine r_iload_n (i := 1) hO rfl rfl dX7_buys_74 ?_
    refine k_X7_levels hO a_585 rfl ⟨rfl, rfl, Nat.le_refl _, Nat.le_refl _⟩ dX7_buys_75 ?_
    intro r1 σ2
    refine r_icmp_ge (tgt := 208) hO dX7_buys_78 (by decide) ?_ ?_
    · exact r_jmp (b_X7_buys_208 hO hR x2 x5 σ2) (lsub_c rfl (lsub_c rfl (lsub_c rfl lsub_n)))
    · refine r_iload hO (d := dX7_buys_81) rfl ?_
      refine r_if_le (tgt := 208) hO dX7_buys_83 (by decide) ?_ ?_
      · exact r_jmp (b_X7_buys_208 hO hR x2 x5 σ2) (lsub_c rfl (lsub_c rfl (lsub_c rfl lsub_n)))
      · refine r_iload hO (d := dX7_buys_86) rfl ?_
        refine r_aload_n (i := 0) hO rfl rfl dX7_buys_88 ?_
        refine r_iload_n (i := 1) hO rfl rfl dX7_buys_89 ?_
        refine r_iload hO (d := dX7_buys_90) rfl ?_
        refine k_X7_sizeOf hO a_618 rfl ⟨rfl, rfl, Nat.le_refl _, Nat.le_refl _⟩ dX7_buys_92 ?_
        intro r3 σ4
        refine r_icmp_ge (tgt := 103) hO dX7_buys_95 (by decide) ?_ ?_
        · refine r_aload_n (i := 0) hO rfl rfl dX7_buys_103 ?_
          refine r_iload_n (i := 1) hO rfl rfl dX7_buys_104 ?_
          refine r_iload hO (d := dX7_buys_105) rfl ?_
          refine k_X7_sizeOf hO a_618 rfl ⟨rfl, rfl, Nat.le_refl _, Nat.le_refl _⟩ dX7_buys_107 ?_
          intro r5 σ6
          exact r_jmp (b_X7_buys_110 hO hR ih x1 x2 x5 x6 x7 r5 σ6) (lsub_c rfl (lsub_c rfl (lsub_c rfl (lsub_c rfl (lsub_c rfl (lsub_c rfl lsub_n))))))
        · refine r_iload hO (d := dX7_buys_98) rfl ?_
          refine r_goto (tgt := 110) hO dX7_buys_100 (by decide) ?_
          exact r_jmp (b_X7_buys_110 hO hR ih x1 x2 x5 x6 x7 x6 σ4) (lsub_c rfl (lsub_c rfl (lsub_c rfl (lsub_c rfl (lsub_c rfl (lsub_c rfl lsub_n))))))
set_option maxRecDepth 20000 in
set_option maxHeartbeats 1000000 in
theorem b_X7_buys_50 {K : Kt}   (hO : Ok K cX7_buys RX7 9 rm_X7_buys) (hR : Rt K (some .int))   (x1 : Int32) (x2 : Int32) (s0 : Int32) (σ : Wd)  : Cm K 9 (0, 0) (f_X7_buys_50  x1 x2 s0 σ) σ 50 [(0, .ref (K.G.A 102)), (1, .int x1), (2, .int x2)] [.int s0] := by
  refine r_aload_n (i := 0) hO rfl rfl dX7_buys_50 ?_
  refine r_iload_n (i := 1) hO rfl rfl dX7_buys_51 ?_
  refine k_X7_lot hO a_643 rfl ⟨rfl, rfl, Nat.le_refl _, Nat.le_refl _⟩ dX7_buys_52 ?_
  intro r1 σ2
  refine r_idiv hO dX7_buys_55 ?_
  refine r_aload_n (i := 0) hO rfl rfl dX7_buys_56 ?_
  refine r_iload_n (i := 1) hO rfl rfl dX7_buys_57 ?_
  refine k_X7_lot hO a_643 rfl ⟨rfl, rfl, Nat.le_refl _, Nat.le_refl _⟩ dX7_buys_58 ?_
  intro r3 σ4
  refine r_imul hO dX7_buys_61 ?_
  refine r_istore hO rfl rfl dX7_buys_62 ?_
  refine r_iload hO (d := dX7_buys_64) rfl ?_
  refine r_istore hO rfl rfl dX7_buys_66 ?_
  refine r_iconst hO ci_0 dX7_buys_68 ?_
  refine r_istore hO rfl rfl dX7_buys_69 ?_
  exact r_jmp (b_X7_buys_71 hO hR FU x1 x2 ((s0 / r1) * r3) ((s0 / r1) * r3) (0 : Int32) σ4) (lsub_c rfl (lsub_c rfl (lsub_c rfl (lsub_c rfl (lsub_c rfl (lsub_c rfl lsub_n))))))
set_option maxRecDepth 20000 in
set_option maxHeartbeats 1000000 in
theorem b_X7_buys {K : Kt}  (hO : Ok K cX7_buys RX7 9 rm_X7_buys) (hR : Rt K (some .int))  (a1 : Int32) (σ : Wd) : Cm K 9 (0, 0) (f_X7_buys a1 σ) σ 0 [(0, .ref (K.G.A 102)), (1, .int a1)] [] := by
  refine r_iload_n (i := 1) hO rfl rfl dX7_buys_0 ?_
  refine k_X7_partAt hO a_581 rfl ⟨rfl, rfl, Nat.le_refl _, Nat.le_refl _⟩ dX7_buys_1 ?_
  intro r1 σ2
  refine r_istore_n (i := 2) hO rfl rfl rfl dX7_buys_4 ?_
  refine r_aload_n (i := 0) hO rfl rfl dX7_buys_5 ?_
  refine gX7_44 hO dX7_buys_6 ?_
  refine r_iload_n (i := 2) hO rfl rfl dX7_buys_9 ?_
  refine r_iconst hO ci_1 dX7_buys_10 ?_
  refine r_iadd hO dX7_buys_11 ?_
  refine r_iald hO s_112 dX7_buys_12 ?_
  refine r_aload_n (i := 0) hO rfl rfl dX7_buys_13 ?_
  refine gX7_44 hO dX7_buys_14 ?_
  refine r_iload_n (i := 2) hO rfl rfl dX7_buys_17 ?_
  refine r_iconst hO ci_2 dX7_buys_18 ?_
  refine r_iadd hO dX7_buys_19 ?_
  refine r_iald hO s_112 dX7_buys_20 ?_
  refine r_isub hO dX7_buys_21 ?_
  refine r_istore_n (i := 3) hO rfl rfl rfl dX7_buys_22 ?_
  refine r_aload_n (i := 0) hO rfl rfl dX7_buys_23 ?_
  refine r_iload_n (i := 1) hO rfl rfl dX7_buys_24 ?_
  refine r_aload_n (i := 0) hO rfl rfl dX7_buys_25 ?_
  refine gX7_44 hO dX7_buys_26 ?_
  refine r_iload_n (i := 2) hO rfl rfl dX7_buys_29 ?_
  refine r_iconst hO ci_4 dX7_buys_30 ?_
  refine r_iadd hO dX7_buys_31 ?_
  refine r_iald hO s_112 dX7_buys_32 ?_
  refine k_X7_unitsTo hO a_622 rfl ⟨rfl, rfl, Nat.le_refl _, Nat.le_refl _⟩ dX7_buys_33 ?_
  intro r3 σ4
  refine r_istore hO rfl rfl dX7_buys_36 ?_
  refine r_iload_n (i := 3) hO rfl rfl dX7_buys_38 ?_
  refine r_iload hO (d := dX7_buys_39) rfl ?_
  refine r_icmp_ge (tgt := 48) hO dX7_buys_41 (by decide) ?_ ?_
  · refine r_iload hO (d := dX7_buys_48) rfl ?_
    exact r_jmp (b_X7_buys_50 hO hR a1 r1 r3 σ4) (lsub_c rfl (lsub_c rfl (lsub_c rfl lsub_n)))
  · refine r_iload_n (i := 3) hO rfl rfl dX7_buys_44 ?_
    refine r_goto (tgt := 50) hO dX7_buys_45 (by decide) ?_
    exact r_jmp (b_X7_buys_50 hO hR a1 r1 ((σ2.1 112 (ix (r1 + (1 : Int32)))) - (σ2.1 112 (ix (r1 + (2 : Int32))))) σ4) (lsub_c rfl (lsub_c rfl (lsub_c rfl lsub_n)))
theorem c_X7_buys {l : Launch} {G : Gh}   (a1 : Int32) (σ : Wd) : Con l G yX7_buys cX7_buys 9 (some .int) 3 67 [.ref (G.A 102), .int a1] σ (f_X7_buys a1 σ) := Con.of (plainFor_of_name (by decide)) rfl (Nat.le_of_ble_eq_true rfl) (fun K hl hG hO hR => by subst hl; subst hG; exact b_X7_buys hO hR  a1 σ)
theorem cal_X7_buys : CalV yX7_buys cX7_buys 9 (some .int) 1 := ⟨a_785, a_786, a_787, a_464, by decide, by decide, by decide +kernel⟩
theorem k_X7_buys {K : Kt} {nL : Nat} {cs : Nat × Nat} {σ : Wd} {pc : Nat} {lv : List (Nat × Value)} {st : List Value} {cc : ByteArray} {own : String} {rm : Room} {index : Nat} {g : Int32 → Wd → Option (Int32 × Wd)} {a1 : Int32} (hO : Ok K cc own nL rm)  (hl : Cond.methodLink own index yX7_buys ∈ gtb) (hcat : Nat.ble ((st.map fun v => v.category).sum) 8 = true) (hR : RoomOk rm cs 3 67 9) (d : decode cc pc = .ok (.invokevirtual index, 3)) (kk : ∀ (r : Int32) (σ : Wd), Cm K nL cs (g r σ) σ (pc + 3) lv (.int r :: st)) : Cm K nL cs (bd (f_X7_buys a1 σ) g) σ pc lv (.int a1 :: .ref (K.G.A 102) :: st) := r_cVi hO (c_X7_buys  a1 σ) cal_X7_buys hl rfl (by decide) ent_X7 rfl rfl hcat hR d kk
/-! OrderSplitModel.endsPart -/
def f_X7_endsPart (a1 : Int32) (σ : Wd) : Option (Int32 × Wd) := bd (f_X7_partAt a1 σ) fun r1 σ2 => gd (inb (r1 + (2 : Int32)) 179) (bd (f_X7_chargeOf a1 (σ2.1 112 (ix (r1 + (2 : Int32)))) σ2) fun r3 σ4 => gd (inb (40 : Int32) 179) (gd (inb (40 : Int32) 179) (nmW (wi σ4 112 (ix (40 : Int32)) ((σ4.1 112 (ix (40 : Int32))) + r3)) fun σ5 => gd (inb (41 : Int32) 179) (gd (inb (r1 + (7 : Int32)) 179) (gd (inb (r1 + (3 : Int32)) 179) (gd (inb (r1 + (1 : Int32)) 179) (bd (f_X7_lower ((σ5.1 112 (ix (r1 + (3 : Int32)))) * (σ2.1 112 (ix (r1 + (2 : Int32))))) (σ5.1 112 (ix (r1 + (1 : Int32)))) σ5) fun r6 σ7 => gd (inb (41 : Int32) 179) (nmW (wi σ7 112 (ix (41 : Int32)) ((σ5.1 112 (ix (41 : Int32))) + (((σ5.1 112 (ix (r1 + (7 : Int32)))) + r3) - r6))) fun σ8 => gd (inb (r1 + (0 : Int32)) 179) (nmW (wi σ8 112 (ix (r1 + (0 : Int32))) (3 : Int32)) fun σ9 => gd (inb (37 : Int32) 179) (bd (f_X7_told a1 (3 : Int32) σ9) fun r10 σ11 => gd (inb (r1 + (5 : Int32)) 179) (nmW (wi σ11 112 (ix (r1 + (5 : Int32))) ((σ9.1 112 (ix (37 : Int32))) + r10)) fun σ12 => gd (inb (r1 + (6 : Int32)) 179) (nmW (wi σ12 112 (ix (r1 + (6 : Int32))) (-2 : Int32)) fun σ13 => some (0, σ13)))))))))))))
set_option maxRecDepth 20000 in
set_option maxHeartbeats 1000000 in
theorem b_X7_endsPart {K : Kt}  (hO : Ok K cX7_endsPart RX7 5 rm_X7_endsPart) (hR : Rt K none)  (a1 : Int32) (σ : Wd) : Cm K 5 (0, 0) (f_X7_endsPart a1 σ) σ 0 [(0, .ref (K.G.A 102)), (1, .int a1)] [] := by
  refine r_iload_n (i := 1) hO rfl rfl dX7_endsPart_0 ?_
  refine k_X7_partAt hO a_581 rfl ⟨rfl, rfl, Nat.le_refl _, Nat.le_refl _⟩ dX7_endsPart_1 ?_
  intro r1 σ2
  refine r_istore_n (i := 2) hO rfl rfl rfl dX7_endsPart_4 ?_
  refine r_aload_n (i := 0) hO rfl rfl dX7_endsPart_5 ?_
  refine gX7_44 hO dX7_endsPart_6 ?_
  refine r_iload_n (i := 2) hO rfl rfl dX7_endsPart_9 ?_
  refine r_iconst hO ci_2 dX7_endsPart_10 ?_
  refine r_iadd hO dX7_endsPart_11 ?_
  refine r_iald hO s_112 dX7_endsPart_12 ?_
  refine r_istore_n (i := 3) hO rfl rfl rfl dX7_endsPart_13 ?_
  refine r_aload_n (i := 0) hO rfl rfl dX7_endsPart_14 ?_
  refine r_iload_n (i := 1) hO rfl rfl dX7_endsPart_15 ?_
  refine r_iload_n (i := 3) hO rfl rfl dX7_endsPart_16 ?_
  refine k_X7_chargeOf hO a_634 rfl ⟨rfl, rfl, Nat.le_refl _, Nat.le_refl _⟩ dX7_endsPart_17 ?_
  intro r3 σ4
  refine r_istore hO rfl rfl dX7_endsPart_20 ?_
  refine r_aload_n (i := 0) hO rfl rfl dX7_endsPart_22 ?_
  refine gX7_44 hO dX7_endsPart_23 ?_
  refine r_bipush hO bi_40 dX7_endsPart_26 ?_
  refine r_dup2 hO rfl rfl dX7_endsPart_28 ?_
  refine r_iald hO s_112 dX7_endsPart_29 ?_
  refine r_iload hO (d := dX7_endsPart_30) rfl ?_
  refine r_iadd hO dX7_endsPart_32 ?_
  refine r_iast hO s_112 dX7_endsPart_33 ?_
  refine r_nmW fun σ5 => ?_
  refine r_aload_n (i := 0) hO rfl rfl dX7_endsPart_34 ?_
  refine gX7_44 hO dX7_endsPart_35 ?_
  refine r_bipush hO bi_41 dX7_endsPart_38 ?_
  refine r_dup2 hO rfl rfl dX7_endsPart_40 ?_
  refine r_iald hO s_112 dX7_endsPart_41 ?_
  refine r_aload_n (i := 0) hO rfl rfl dX7_endsPart_42 ?_
  refine gX7_44 hO dX7_endsPart_43 ?_
  refine r_iload_n (i := 2) hO rfl rfl dX7_endsPart_46 ?_
  refine r_bipush hO bi_7 dX7_endsPart_47 ?_
  refine r_iadd hO dX7_endsPart_49 ?_
  refine r_iald hO s_112 dX7_endsPart_50 ?_
  refine r_iload hO (d := dX7_endsPart_51) rfl ?_
  refine r_iadd hO dX7_endsPart_53 ?_
  refine r_aload_n (i := 0) hO rfl rfl dX7_endsPart_54 ?_
  refine gX7_44 hO dX7_endsPart_55 ?_
  refine r_iload_n (i := 2) hO rfl rfl dX7_endsPart_58 ?_
  refine r_iconst hO ci_3 dX7_endsPart_59 ?_
  refine r_iadd hO dX7_endsPart_60 ?_
  refine r_iald hO s_112 dX7_endsPart_61 ?_
  refine r_iload_n (i := 3) hO rfl rfl dX7_endsPart_62 ?_
  refine r_imul hO dX7_endsPart_63 ?_
  refine r_aload_n (i := 0) hO rfl rfl dX7_endsPart_64 ?_
  refine gX7_44 hO dX7_endsPart_65 ?_
  refine r_iload_n (i := 2) hO rfl rfl dX7_endsPart_68 ?_
  refine r_iconst hO ci_1 dX7_endsPart_69 ?_
  refine r_iadd hO dX7_endsPart_70 ?_
  refine r_iald hO s_112 dX7_endsPart_71 ?_
  refine k_X7_lower hO a_626 rfl ⟨rfl, rfl, Nat.le_refl _, Nat.le_refl _⟩ dX7_endsPart_72 ?_
  intro r6 σ7
  refine r_isub hO dX7_endsPart_75 ?_
  refine r_iadd hO dX7_endsPart_76 ?_
  refine r_iast hO s_112 dX7_endsPart_77 ?_
  refine r_nmW fun σ8 => ?_
  refine r_aload_n (i := 0) hO rfl rfl dX7_endsPart_78 ?_
  refine gX7_44 hO dX7_endsPart_79 ?_
  refine r_iload_n (i := 2) hO rfl rfl dX7_endsPart_82 ?_
  refine r_iconst hO ci_0 dX7_endsPart_83 ?_
  refine r_iadd hO dX7_endsPart_84 ?_
  refine r_iconst hO ci_3 dX7_endsPart_85 ?_
  refine r_iast hO s_112 dX7_endsPart_86 ?_
  refine r_nmW fun σ9 => ?_
  refine r_aload_n (i := 0) hO rfl rfl dX7_endsPart_87 ?_
  refine gX7_44 hO dX7_endsPart_88 ?_
  refine r_iload_n (i := 2) hO rfl rfl dX7_endsPart_91 ?_
  refine r_iconst hO ci_5 dX7_endsPart_92 ?_
  refine r_iadd hO dX7_endsPart_93 ?_
  refine r_aload_n (i := 0) hO rfl rfl dX7_endsPart_94 ?_
  refine gX7_44 hO dX7_endsPart_95 ?_
  refine r_bipush hO bi_37 dX7_endsPart_98 ?_
  refine r_iald hO s_112 dX7_endsPart_100 ?_
  refine r_aload_n (i := 0) hO rfl rfl dX7_endsPart_101 ?_
  refine r_iload_n (i := 1) hO rfl rfl dX7_endsPart_102 ?_
  refine r_iconst hO ci_3 dX7_endsPart_103 ?_
  refine k_X7_told hO a_575 rfl ⟨rfl, rfl, Nat.le_refl _, Nat.le_refl _⟩ dX7_endsPart_104 ?_
  intro r10 σ11
  refine r_iadd hO dX7_endsPart_107 ?_
  refine r_iast hO s_112 dX7_endsPart_108 ?_
  refine r_nmW fun σ12 => ?_
  refine r_aload_n (i := 0) hO rfl rfl dX7_endsPart_109 ?_
  refine gX7_44 hO dX7_endsPart_110 ?_
  refine r_iload_n (i := 2) hO rfl rfl dX7_endsPart_113 ?_
  refine r_bipush hO bi_6 dX7_endsPart_114 ?_
  refine r_iadd hO dX7_endsPart_116 ?_
  refine r_bipush hO bi_m2 dX7_endsPart_117 ?_
  refine r_iast hO s_112 dX7_endsPart_119 ?_
  refine r_nmW fun σ13 => ?_
  exact r_vret hO hR dX7_endsPart_120
theorem c_X7_endsPart {l : Launch} {G : Gh}   (a1 : Int32) (σ : Wd) : Con l G yX7_endsPart cX7_endsPart 5 none 2 46 [.ref (G.A 102), .int a1] σ (f_X7_endsPart a1 σ) := Con.of (plainFor_of_name (by decide)) rfl (Nat.le_of_ble_eq_true rfl) (fun K hl hG hO hR => by subst hl; subst hG; exact b_X7_endsPart hO hR  a1 σ)
theorem cal_X7_endsPart : CalV yX7_endsPart cX7_endsPart 5 none 1 := ⟨a_788, a_789, a_790, a_464, by decide, by decide, by decide +kernel⟩
theorem k_X7_endsPart {K : Kt} {nL : Nat} {cs : Nat × Nat} {σ : Wd} {pc : Nat} {lv : List (Nat × Value)} {st : List Value} {cc : ByteArray} {own : String} {rm : Room} {index : Nat} {g : Int32 → Wd → Option (Int32 × Wd)} {a1 : Int32} (hO : Ok K cc own nL rm)  (hl : Cond.methodLink own index yX7_endsPart ∈ gtb) (hcat : Nat.ble ((st.map fun v => v.category).sum) 8 = true) (hR : RoomOk rm cs 2 46 5) (d : decode cc pc = .ok (.invokevirtual index, 3)) (kk : ∀ (r : Int32) (σ : Wd), Cm K nL cs (g r σ) σ (pc + 3) lv st) : Cm K nL cs (bd (f_X7_endsPart a1 σ) g) σ pc lv (.int a1 :: .ref (K.G.A 102) :: st) := r_cVv hO (c_X7_endsPart  a1 σ) cal_X7_endsPart hl rfl (by decide) ent_X7 rfl rfl hcat hR d kk
/-! OrderSplitModel.goesAt -/
def f_X7_goesAt_143   (x3 : Int32) (σ : Wd) : Option (Int32 × Wd) := some (x3, σ)
def f_X7_goesAt_138   (x1 : Int32) (x3 : Int32) (σ : Wd) : Option (Int32 × Wd) := bd (f_X7_endsPart x1 σ) fun _ σ1 => (f_X7_goesAt_143 x3 σ1)
def f_X7_goesAt_198    (σ : Wd) : Option (Int32 × Wd) := some ((0 : Int32), σ)
def f_X7_goesAt_64   (x1 : Int32) (x2 : Int32) (σ : Wd) : Option (Int32 × Wd) := gd (inb (x2 + (0 : Int32)) 179) (if (σ.1 112 (ix (x2 + (0 : Int32)))) = (2 : Int32) then (bd (f_X7_buys x1 σ) fun r1 σ2 => gd (inb (x2 + (2 : Int32)) 179) (gd (inb (x2 + (1 : Int32)) 179) (if (σ2.1 112 (ix (x2 + (2 : Int32)))) = (σ2.1 112 (ix (x2 + (1 : Int32)))) then (f_X7_goesAt_138 x1 r1 σ2) else (gd (inb (x2 + (6 : Int32)) 179) (gd (inb (37 : Int32) 179) (if (σ2.1 112 (ix (x2 + (6 : Int32)))) = (σ2.1 112 (ix (37 : Int32))) then (f_X7_goesAt_138 x1 r1 σ2) else (gd (inb (x2 + (5 : Int32)) 179) (gd (inb (37 : Int32) 179) (if (σ2.1 112 (ix (x2 + (5 : Int32)))) = (σ2.1 112 (ix (37 : Int32))) then (f_X7_goesAt_138 x1 r1 σ2) else (f_X7_goesAt_143 r1 σ2)))))))))) else (gd (inb (x2 + (0 : Int32)) 179) (if (σ.1 112 (ix (x2 + (0 : Int32)))) = (3 : Int32) then (gd (inb (x2 + (5 : Int32)) 179) (gd (inb (37 : Int32) 179) (if (σ.1 112 (ix (x2 + (5 : Int32)))) = (σ.1 112 (ix (37 : Int32))) then (gd (inb (38 : Int32) 179) (gd (inb (x2 + (2 : Int32)) 179) (gd (inb (38 : Int32) 179) (nmW (wi σ 112 (ix (38 : Int32)) ((σ.1 112 (ix (38 : Int32))) - (σ.1 112 (ix (x2 + (2 : Int32)))))) fun σ3 => bd (f_X7_clearsPart x1 σ3) fun _ σ4 => (f_X7_goesAt_198 σ4))))) else (f_X7_goesAt_198 σ)))) else (f_X7_goesAt_198 σ))))
def f_X7_goesAt (a1 : Int32) (σ : Wd) : Option (Int32 × Wd) := bd (f_X7_partAt a1 σ) fun r1 σ2 => gd (inb (r1 + (0 : Int32)) 179) (if (σ2.1 112 (ix (r1 + (0 : Int32)))) = (1 : Int32) then (gd (inb (r1 + (5 : Int32)) 179) (gd (inb (37 : Int32) 179) (if (σ2.1 112 (ix (r1 + (5 : Int32)))) = (σ2.1 112 (ix (37 : Int32))) then (gd (inb (r1 + (0 : Int32)) 179) (nmW (wi σ2 112 (ix (r1 + (0 : Int32))) (2 : Int32)) fun σ3 => gd (inb (37 : Int32) 179) (gd (inb (r1 + (5 : Int32)) 179) (nmW (wi σ3 112 (ix (r1 + (5 : Int32))) ((σ3.1 112 (ix (37 : Int32))) + (σ3.1 102 13))) fun σ4 => (f_X7_goesAt_64 a1 r1 σ4))))) else (f_X7_goesAt_64 a1 r1 σ2)))) else (f_X7_goesAt_64 a1 r1 σ2))
set_option maxRecDepth 20000 in
set_option maxHeartbeats 1000000 in
theorem b_X7_goesAt_143 {K : Kt}   (hO : Ok K cX7_goesAt RX7 4 rm_X7_goesAt) (hR : Rt K (some .int))   (x3 : Int32) (σ : Wd)  : Cm K 4 (0, 0) (f_X7_goesAt_143  x3 σ) σ 143 [(3, .int x3)] [] := by
  refine r_iload_n (i := 3) hO rfl rfl dX7_goesAt_143 ?_
  exact r_iret hO hR dX7_goesAt_144
set_option maxRecDepth 20000 in
set_option maxHeartbeats 1000000 in
theorem b_X7_goesAt_138 {K : Kt}   (hO : Ok K cX7_goesAt RX7 4 rm_X7_goesAt) (hR : Rt K (some .int))   (x1 : Int32) (x3 : Int32) (σ : Wd)  : Cm K 4 (0, 0) (f_X7_goesAt_138  x1 x3 σ) σ 138 [(0, .ref (K.G.A 102)), (1, .int x1), (3, .int x3)] [] := by
  refine r_aload_n (i := 0) hO rfl rfl dX7_goesAt_138 ?_
  refine r_iload_n (i := 1) hO rfl rfl dX7_goesAt_139 ?_
  refine k_X7_endsPart hO a_792 rfl ⟨rfl, rfl, Nat.le_refl _, Nat.le_refl _⟩ dX7_goesAt_140 ?_
  intro _ σ1
  exact r_jmp (b_X7_goesAt_143 hO hR x3 σ1) (lsub_c rfl lsub_n)
set_option maxRecDepth 20000 in
set_option maxHeartbeats 1000000 in
theorem b_X7_goesAt_198 {K : Kt}   (hO : Ok K cX7_goesAt RX7 4 rm_X7_goesAt) (hR : Rt K (some .int))    (σ : Wd)  : Cm K 4 (0, 0) (f_X7_goesAt_198   σ) σ 198 [] [] := by
  refine r_iconst hO ci_0 dX7_goesAt_198 ?_
  exact r_iret hO hR dX7_goesAt_199
set_option maxRecDepth 20000 in
set_option maxHeartbeats 1000000 in
theorem b_X7_goesAt_64 {K : Kt}   (hO : Ok K cX7_goesAt RX7 4 rm_X7_goesAt) (hR : Rt K (some .int))   (x1 : Int32) (x2 : Int32) (σ : Wd)  : Cm K 4 (0, 0) (f_X7_goesAt_64  x1 x2 σ) σ 64 [(0, .ref (K.G.A 102)), (1, .int x1), (2, .int x2)] [] := by
  refine r_aload_n (i := 0) hO rfl rfl dX7_goesAt_64 ?_
  refine gX7_44 hO dX7_goesAt_65 ?_
  refine r_iload_n (i := 2) hO rfl rfl dX7_goesAt_68 ?_
  refine r_iconst hO ci_0 dX7_goesAt_69 ?_
  refine r_iadd hO dX7_goesAt_70 ?_
  refine r_iald hO s_112 dX7_goesAt_71 ?_
  refine r_iconst hO ci_2 dX7_goesAt_72 ?_
  refine r_icmp_ne (tgt := 145) hO dX7_goesAt_73 (by decide) ?_ ?_
  · refine r_aload_n (i := 0) hO rfl rfl dX7_goesAt_76 ?_
    refine r_iload_n (i := 1) hO rfl rfl dX7_goesAt_77 ?_
    refine k_X7_buys hO a_791 rfl ⟨rfl, rfl, Nat.le_refl _, Nat.le_refl _⟩ dX7_goesAt_78 ?_
    intro r1 σ2
    refine r_istore_n (i := 3) hO rfl rfl rfl dX7_goesAt_81 ?_
    refine r_aload_n (i := 0) hO rfl rfl dX7_goesAt_82 ?_
    refine gX7_44 hO dX7_goesAt_83 ?_
    refine r_iload_n (i := 2) hO rfl rfl dX7_goesAt_86 ?_
    refine r_iconst hO ci_2 dX7_goesAt_87 ?_
    refine r_iadd hO dX7_goesAt_88 ?_
    refine r_iald hO s_112 dX7_goesAt_89 ?_
    refine r_aload_n (i := 0) hO rfl rfl dX7_goesAt_90 ?_
    refine gX7_44 hO dX7_goesAt_91 ?_
    refine r_iload_n (i := 2) hO rfl rfl dX7_goesAt_94 ?_
    refine r_iconst hO ci_1 dX7_goesAt_95 ?_
    refine r_iadd hO dX7_goesAt_96 ?_
    refine r_iald hO s_112 dX7_goesAt_97 ?_
    refine r_icmp_eq (tgt := 138) hO dX7_goesAt_98 (by decide) ?_ ?_
    · exact r_jmp (b_X7_goesAt_138 hO hR x1 r1 σ2) (lsub_c rfl (lsub_c rfl (lsub_c rfl lsub_n)))
    · refine r_aload_n (i := 0) hO rfl rfl dX7_goesAt_101 ?_
      refine gX7_44 hO dX7_goesAt_102 ?_
      refine r_iload_n (i := 2) hO rfl rfl dX7_goesAt_105 ?_
      refine r_bipush hO bi_6 dX7_goesAt_106 ?_
      refine r_iadd hO dX7_goesAt_108 ?_
      refine r_iald hO s_112 dX7_goesAt_109 ?_
      refine r_aload_n (i := 0) hO rfl rfl dX7_goesAt_110 ?_
      refine gX7_44 hO dX7_goesAt_111 ?_
      refine r_bipush hO bi_37 dX7_goesAt_114 ?_
      refine r_iald hO s_112 dX7_goesAt_116 ?_
      refine r_icmp_eq (tgt := 138) hO dX7_goesAt_117 (by decide) ?_ ?_
      · exact r_jmp (b_X7_goesAt_138 hO hR x1 r1 σ2) (lsub_c rfl (lsub_c rfl (lsub_c rfl lsub_n)))
      · refine r_aload_n (i := 0) hO rfl rfl dX7_goesAt_120 ?_
        refine gX7_44 hO dX7_goesAt_121 ?_
        refine r_iload_n (i := 2) hO rfl rfl dX7_goesAt_124 ?_
        refine r_iconst hO ci_5 dX7_goesAt_125 ?_
        refine r_iadd hO dX7_goesAt_126 ?_
        refine r_iald hO s_112 dX7_goesAt_127 ?_
        refine r_aload_n (i := 0) hO rfl rfl dX7_goesAt_128 ?_
        refine gX7_44 hO dX7_goesAt_129 ?_
        refine r_bipush hO bi_37 dX7_goesAt_132 ?_
        refine r_iald hO s_112 dX7_goesAt_134 ?_
        refine r_icmp_ne (tgt := 143) hO dX7_goesAt_135 (by decide) ?_ ?_
        · exact r_jmp (b_X7_goesAt_138 hO hR x1 r1 σ2) (lsub_c rfl (lsub_c rfl (lsub_c rfl lsub_n)))
        · exact r_jmp (b_X7_goesAt_143 hO hR r1 σ2) (lsub_c rfl lsub_n)
  · refine r_aload_n (i := 0) hO rfl rfl dX7_goesAt_145 ?_
    refine gX7_44 hO dX7_goesAt_146 ?_
    refine r_iload_n (i := 2) hO rfl rfl dX7_goesAt_149 ?_
    refine r_iconst hO ci_0 dX7_goesAt_150 ?_
    refine r_iadd hO dX7_goesAt_151 ?_
    refine r_iald hO s_112 dX7_goesAt_152 ?_
    refine r_iconst hO ci_3 dX7_goesAt_153 ?_
    refine r_icmp_ne (tgt := 198) hO dX7_goesAt_154 (by decide) ?_ ?_
    · refine r_aload_n (i := 0) hO rfl rfl dX7_goesAt_157 ?_
      refine gX7_44 hO dX7_goesAt_158 ?_
      refine r_iload_n (i := 2) hO rfl rfl dX7_goesAt_161 ?_
      refine r_iconst hO ci_5 dX7_goesAt_162 ?_
      refine r_iadd hO dX7_goesAt_163 ?_
      refine r_iald hO s_112 dX7_goesAt_164 ?_
      refine r_aload_n (i := 0) hO rfl rfl dX7_goesAt_165 ?_
      refine gX7_44 hO dX7_goesAt_166 ?_
      refine r_bipush hO bi_37 dX7_goesAt_169 ?_
      refine r_iald hO s_112 dX7_goesAt_171 ?_
      refine r_icmp_ne (tgt := 198) hO dX7_goesAt_172 (by decide) ?_ ?_
      · refine r_aload_n (i := 0) hO rfl rfl dX7_goesAt_175 ?_
        refine gX7_44 hO dX7_goesAt_176 ?_
        refine r_bipush hO bi_38 dX7_goesAt_179 ?_
        refine r_dup2 hO rfl rfl dX7_goesAt_181 ?_
        refine r_iald hO s_112 dX7_goesAt_182 ?_
        refine r_aload_n (i := 0) hO rfl rfl dX7_goesAt_183 ?_
        refine gX7_44 hO dX7_goesAt_184 ?_
        refine r_iload_n (i := 2) hO rfl rfl dX7_goesAt_187 ?_
        refine r_iconst hO ci_2 dX7_goesAt_188 ?_
        refine r_iadd hO dX7_goesAt_189 ?_
        refine r_iald hO s_112 dX7_goesAt_190 ?_
        refine r_isub hO dX7_goesAt_191 ?_
        refine r_iast hO s_112 dX7_goesAt_192 ?_
        refine r_nmW fun σ3 => ?_
        refine r_aload_n (i := 0) hO rfl rfl dX7_goesAt_193 ?_
        refine r_iload_n (i := 1) hO rfl rfl dX7_goesAt_194 ?_
        refine k_X7_clearsPart hO a_586 rfl ⟨rfl, rfl, Nat.le_refl _, Nat.le_refl _⟩ dX7_goesAt_195 ?_
        intro _ σ4
        exact r_jmp (b_X7_goesAt_198 hO hR σ4) lsub_n
      · exact r_jmp (b_X7_goesAt_198 hO hR σ) lsub_n
    · exact r_jmp (b_X7_goesAt_198 hO hR σ) lsub_n
set_option maxRecDepth 20000 in
set_option maxHeartbeats 1000000 in
theorem b_X7_goesAt {K : Kt}  (hO : Ok K cX7_goesAt RX7 4 rm_X7_goesAt) (hR : Rt K (some .int))  (a1 : Int32) (σ : Wd) : Cm K 4 (0, 0) (f_X7_goesAt a1 σ) σ 0 [(0, .ref (K.G.A 102)), (1, .int a1)] [] := by
  refine r_iload_n (i := 1) hO rfl rfl dX7_goesAt_0 ?_
  refine k_X7_partAt hO a_581 rfl ⟨rfl, rfl, Nat.le_refl _, Nat.le_refl _⟩ dX7_goesAt_1 ?_
  intro r1 σ2
  refine r_istore_n (i := 2) hO rfl rfl rfl dX7_goesAt_4 ?_
  refine r_aload_n (i := 0) hO rfl rfl dX7_goesAt_5 ?_
  refine gX7_44 hO dX7_goesAt_6 ?_
  refine r_iload_n (i := 2) hO rfl rfl dX7_goesAt_9 ?_
  refine r_iconst hO ci_0 dX7_goesAt_10 ?_
  refine r_iadd hO dX7_goesAt_11 ?_
  refine r_iald hO s_112 dX7_goesAt_12 ?_
  refine r_iconst hO ci_1 dX7_goesAt_13 ?_
  refine r_icmp_ne (tgt := 64) hO dX7_goesAt_14 (by decide) ?_ ?_
  · refine r_aload_n (i := 0) hO rfl rfl dX7_goesAt_17 ?_
    refine gX7_44 hO dX7_goesAt_18 ?_
    refine r_iload_n (i := 2) hO rfl rfl dX7_goesAt_21 ?_
    refine r_iconst hO ci_5 dX7_goesAt_22 ?_
    refine r_iadd hO dX7_goesAt_23 ?_
    refine r_iald hO s_112 dX7_goesAt_24 ?_
    refine r_aload_n (i := 0) hO rfl rfl dX7_goesAt_25 ?_
    refine gX7_44 hO dX7_goesAt_26 ?_
    refine r_bipush hO bi_37 dX7_goesAt_29 ?_
    refine r_iald hO s_112 dX7_goesAt_31 ?_
    refine r_icmp_ne (tgt := 64) hO dX7_goesAt_32 (by decide) ?_ ?_
    · refine r_aload_n (i := 0) hO rfl rfl dX7_goesAt_35 ?_
      refine gX7_44 hO dX7_goesAt_36 ?_
      refine r_iload_n (i := 2) hO rfl rfl dX7_goesAt_39 ?_
      refine r_iconst hO ci_0 dX7_goesAt_40 ?_
      refine r_iadd hO dX7_goesAt_41 ?_
      refine r_iconst hO ci_2 dX7_goesAt_42 ?_
      refine r_iast hO s_112 dX7_goesAt_43 ?_
      refine r_nmW fun σ3 => ?_
      refine r_aload_n (i := 0) hO rfl rfl dX7_goesAt_44 ?_
      refine gX7_44 hO dX7_goesAt_45 ?_
      refine r_iload_n (i := 2) hO rfl rfl dX7_goesAt_48 ?_
      refine r_iconst hO ci_5 dX7_goesAt_49 ?_
      refine r_iadd hO dX7_goesAt_50 ?_
      refine r_aload_n (i := 0) hO rfl rfl dX7_goesAt_51 ?_
      refine gX7_44 hO dX7_goesAt_52 ?_
      refine r_bipush hO bi_37 dX7_goesAt_55 ?_
      refine r_iald hO s_112 dX7_goesAt_57 ?_
      refine r_aload_n (i := 0) hO rfl rfl dX7_goesAt_58 ?_
      refine gX7_250 hO dX7_goesAt_59 ?_
      refine r_iadd hO dX7_goesAt_62 ?_
      refine r_iast hO s_112 dX7_goesAt_63 ?_
      refine r_nmW fun σ4 => ?_
      exact r_jmp (b_X7_goesAt_64 hO hR a1 r1 σ4) (lsub_c rfl (lsub_c rfl (lsub_c rfl lsub_n)))
    · exact r_jmp (b_X7_goesAt_64 hO hR a1 r1 σ2) (lsub_c rfl (lsub_c rfl (lsub_c rfl lsub_n)))
  · exact r_jmp (b_X7_goesAt_64 hO hR a1 r1 σ2) (lsub_c rfl (lsub_c rfl (lsub_c rfl lsub_n)))
theorem c_X7_goesAt {l : Launch} {G : Gh}   (a1 : Int32) (σ : Wd) : Con l G yX7_goesAt cX7_goesAt 4 (some .int) 4 95 [.ref (G.A 102), .int a1] σ (f_X7_goesAt a1 σ) := Con.of (plainFor_of_name (by decide)) rfl (Nat.le_of_ble_eq_true rfl) (fun K hl hG hO hR => by subst hl; subst hG; exact b_X7_goesAt hO hR  a1 σ)
theorem cal_X7_goesAt : CalV yX7_goesAt cX7_goesAt 4 (some .int) 1 := ⟨a_793, a_794, a_795, a_464, by decide, by decide, by decide +kernel⟩
theorem k_X7_goesAt {K : Kt} {nL : Nat} {cs : Nat × Nat} {σ : Wd} {pc : Nat} {lv : List (Nat × Value)} {st : List Value} {cc : ByteArray} {own : String} {rm : Room} {index : Nat} {g : Int32 → Wd → Option (Int32 × Wd)} {a1 : Int32} (hO : Ok K cc own nL rm)  (hl : Cond.methodLink own index yX7_goesAt ∈ gtb) (hcat : Nat.ble ((st.map fun v => v.category).sum) 8 = true) (hR : RoomOk rm cs 4 95 4) (d : decode cc pc = .ok (.invokevirtual index, 3)) (kk : ∀ (r : Int32) (σ : Wd), Cm K nL cs (g r σ) σ (pc + 3) lv (.int r :: st)) : Cm K nL cs (bd (f_X7_goesAt a1 σ) g) σ pc lv (.int a1 :: .ref (K.G.A 102) :: st) := r_cVi hO (c_X7_goesAt  a1 σ) cal_X7_goesAt hl rfl (by decide) ent_X7 rfl rfl hcat hR d kk
/-! OrderSplitModel.tick -/
def f_X7_tick_80  (k13 : Int32 → Wd → Option (Int32 × Wd)) (x1 : Int32) (σ : Wd) : Option (Int32 × Wd) := (k13 (x1 + (1 : Int32)) σ)
def f_X7_tick_90   : Nat → Int32 → Int32 → Wd → Option (Int32 × Wd)
  | 0 => fun _ _ _ => none
  | n + 1 => fun x1 x2 σ => if (σ.1 102 14) ≤ x2 then (bd (f_X7_beginsRound σ) fun r1 σ2 => some (x1, σ2)) else (bd (f_X7_goesAt x2 σ) fun r3 σ4 => (f_X7_tick_90 n (x1 + r3) (x2 + (1 : Int32)) σ4))
def f_X7_tick_13   : Nat → Int32 → Wd → Option (Int32 × Wd)
  | 0 => fun _ _ => none
  | n + 1 => fun x1 σ => if (σ.1 102 15) ≤ x1 then (f_X7_tick_90 FU (0 : Int32) (0 : Int32) σ) else (gd (inb ((4 : Int32) * x1) 40) (gd (inb (37 : Int32) 179) (if (σ.1 105 (ix ((4 : Int32) * x1))) = (σ.1 112 (ix (37 : Int32))) then (gd (inb (((4 : Int32) * x1) + (1 : Int32)) 40) (gd (inb (((4 : Int32) * x1) + (2 : Int32)) 40) (gd (inb (((4 : Int32) * x1) + (3 : Int32)) 40) (gd (inb (((0 : Int32) + ((6 : Int32) * (σ.1 105 (ix (((4 : Int32) * x1) + (1 : Int32)))))) + (σ.1 105 (ix (((4 : Int32) * x1) + (2 : Int32))))) 179) (nmW (wi σ 112 (ix (((0 : Int32) + ((6 : Int32) * (σ.1 105 (ix (((4 : Int32) * x1) + (1 : Int32)))))) + (σ.1 105 (ix (((4 : Int32) * x1) + (2 : Int32)))))) (σ.1 105 (ix (((4 : Int32) * x1) + (3 : Int32))))) fun σ1 => (f_X7_tick_80 (f_X7_tick_13 n) x1 σ1)))))) else (f_X7_tick_80 (f_X7_tick_13 n) x1 σ))))
def f_X7_tick  (σ : Wd) : Option (Int32 × Wd) := gd (inb (37 : Int32) 179) (gd (inb (37 : Int32) 179) (nmW (wi σ 112 (ix (37 : Int32)) ((σ.1 112 (ix (37 : Int32))) + (1 : Int32))) fun σ1 => (f_X7_tick_13 FU (0 : Int32) σ1)))
set_option maxRecDepth 20000 in
set_option maxHeartbeats 1000000 in
theorem b_X7_tick_80 {K : Kt}  {k13 : Int32 → Wd → Option (Int32 × Wd)} (hO : Ok K cX7_tick RX7 3 rm_X7_tick) (hR : Rt K (some .int))   (hk13 : ∀ (x1 : Int32) (σ : Wd), Cm K 3 (0, 0) (k13 x1 σ) σ 13 [(0, .ref (K.G.A 102)), (1, .int x1)] []) (x1 : Int32) (σ : Wd)  : Cm K 3 (0, 0) (f_X7_tick_80 k13 x1 σ) σ 80 [(0, .ref (K.G.A 102)), (1, .int x1)] [] := by
  refine r_iinc hO rfl ci_1 rfl rfl dX7_tick_80 ?_
  refine r_goto (tgt := 13) hO dX7_tick_83 (by decide) ?_
  exact r_jmp (hk13 (x1 + (1 : Int32)) σ) (lsub_c rfl (lsub_c rfl lsub_n))
set_option maxRecDepth 20000 in
set_option maxHeartbeats 1000000 in
theorem b_X7_tick_90 {K : Kt}   (hO : Ok K cX7_tick RX7 3 rm_X7_tick) (hR : Rt K (some .int))   : ∀ (n : Nat) (x1 : Int32) (x2 : Int32) (σ : Wd) , Cm K 3 (0, 0) (f_X7_tick_90  n x1 x2 σ) σ 90 [(0, .ref (K.G.A 102)), (1, .int x1), (2, .int x2)] [] := by
  intro n
  induction n with
  | zero => intro x1 x2 σ ; exact r_none
  | succ n ih =>
    intro x1 x2 σ 
    refine r_iload_n (i := 2) hO rfl rfl dX7_tick_90 ?_
    refine r_aload_n (i := 0) hO rfl rfl dX7_tick_91 ?_
    refine gX7_235 hO dX7_tick_92 ?_
    refine r_icmp_ge (tgt := 112) hO dX7_tick_95 (by decide) ?_ ?_
    · refine r_aload_n (i := 0) hO rfl rfl dX7_tick_112 ?_
      refine k_X7_beginsRound hO a_796 rfl ⟨rfl, rfl, Nat.le_refl _, Nat.le_refl _⟩ dX7_tick_113 ?_
      intro r1 σ2
      refine r_pop hO rfl dX7_tick_116 ?_
      refine r_iload_n (i := 1) hO rfl rfl dX7_tick_117 ?_
      exact r_iret hO hR dX7_tick_118
    · refine r_iload_n (i := 1) hO rfl rfl dX7_tick_98 ?_
      refine r_aload_n (i := 0) hO rfl rfl dX7_tick_99 ?_
      refine r_iload_n (i := 2) hO rfl rfl dX7_tick_100 ?_
      refine k_X7_goesAt hO a_797 rfl ⟨rfl, rfl, Nat.le_refl _, Nat.le_refl _⟩ dX7_tick_101 ?_
      intro r3 σ4
      refine r_iadd hO dX7_tick_104 ?_
      refine r_istore_n (i := 1) hO rfl rfl rfl dX7_tick_105 ?_
      refine r_iinc hO rfl ci_1 rfl rfl dX7_tick_106 ?_
      refine r_goto (tgt := 90) hO dX7_tick_109 (by decide) ?_
      exact r_jmp (ih (x1 + r3) (x2 + (1 : Int32)) σ4) (lsub_c rfl (lsub_c rfl (lsub_c rfl lsub_n)))
set_option maxRecDepth 20000 in
set_option maxHeartbeats 1000000 in
theorem b_X7_tick_13 {K : Kt}   (hO : Ok K cX7_tick RX7 3 rm_X7_tick) (hR : Rt K (some .int))   : ∀ (n : Nat) (x1 : Int32) (σ : Wd) , Cm K 3 (0, 0) (f_X7_tick_13  n x1 σ) σ 13 [(0, .ref (K.G.A 102)), (1, .int x1)] [] := by
  intro n
  induction n with
  | zero => intro x1 σ ; exact r_none
  | succ n ih =>
    intro x1 σ 
    refine r_iload_n (i := 1) hO rfl rfl dX7_tick_13 ?_
    refine r_aload_n (i := 0) hO rfl rfl dX7_tick_14 ?_
    refine gX7_252 hO dX7_tick_15 ?_
    refine r_icmp_ge (tgt := 86) hO dX7_tick_18 (by decide) ?_ ?_
    · refine r_iconst hO ci_0 dX7_tick_86 ?_
      refine r_istore_n (i := 1) hO rfl rfl rfl dX7_tick_87 ?_
      refine r_iconst hO ci_0 dX7_tick_88 ?_
      refine r_istore_n (i := 2) hO rfl rfl rfl dX7_tick_89 ?_
      exact r_jmp (b_X7_tick_90 hO hR FU (0 : Int32) (0 : Int32) σ) (lsub_c rfl (lsub_c rfl (lsub_c rfl lsub_n)))
    · refine r_aload_n (i := 0) hO rfl rfl dX7_tick_21 ?_
      refine gX7_22 hO dX7_tick_22 ?_
      refine r_iconst hO ci_4 dX7_tick_25 ?_
      refine r_iload_n (i := 1) hO rfl rfl dX7_tick_26 ?_
      refine r_imul hO dX7_tick_27 ?_
      refine r_iald hO s_105 dX7_tick_28 ?_
      refine r_aload_n (i := 0) hO rfl rfl dX7_tick_29 ?_
      refine gX7_44 hO dX7_tick_30 ?_
      refine r_bipush hO bi_37 dX7_tick_33 ?_
      refine r_iald hO s_112 dX7_tick_35 ?_
      refine r_icmp_ne (tgt := 80) hO dX7_tick_36 (by decide) ?_ ?_
      · refine r_aload_n (i := 0) hO rfl rfl dX7_tick_39 ?_
        refine gX7_44 hO dX7_tick_40 ?_
        refine r_iconst hO ci_0 dX7_tick_43 ?_
        refine r_bipush hO bi_6 dX7_tick_44 ?_
        refine r_aload_n (i := 0) hO rfl rfl dX7_tick_46 ?_
        refine gX7_22 hO dX7_tick_47 ?_
        refine r_iconst hO ci_4 dX7_tick_50 ?_
        refine r_iload_n (i := 1) hO rfl rfl dX7_tick_51 ?_
        refine r_imul hO dX7_tick_52 ?_
        refine r_iconst hO ci_1 dX7_tick_53 ?_
        refine r_iadd hO dX7_tick_54 ?_
        refine r_iald hO s_105 dX7_tick_55 ?_
        refine r_imul hO dX7_tick_56 ?_
        refine r_iadd hO dX7_tick_57 ?_
        refine r_aload_n (i := 0) hO rfl rfl dX7_tick_58 ?_
        refine gX7_22 hO dX7_tick_59 ?_
        refine r_iconst hO ci_4 dX7_tick_62 ?_
        refine r_iload_n (i := 1) hO rfl rfl dX7_tick_63 ?_
        refine r_imul hO dX7_tick_64 ?_
        refine r_iconst hO ci_2 dX7_tick_65 ?_
        refine r_iadd hO dX7_tick_66 ?_
        refine r_iald hO s_105 dX7_tick_67 ?_
        refine r_iadd hO dX7_tick_68 ?_
        refine r_aload_n (i := 0) hO rfl rfl dX7_tick_69 ?_
        refine gX7_22 hO dX7_tick_70 ?_
        refine r_iconst hO ci_4 dX7_tick_73 ?_
        refine r_iload_n (i := 1) hO rfl rfl dX7_tick_74 ?_
        refine r_imul hO dX7_tick_75 ?_
        refine r_iconst hO ci_3 dX7_tick_76 ?_
        refine r_iadd hO dX7_tick_77 ?_
        refine r_iald hO s_105 dX7_tick_78 ?_
        refine r_iast hO s_112 dX7_tick_79 ?_
        refine r_nmW fun σ1 => ?_
        exact r_jmp (b_X7_tick_80 hO hR ih x1 σ1) (lsub_c rfl (lsub_c rfl lsub_n))
      · exact r_jmp (b_X7_tick_80 hO hR ih x1 σ) (lsub_c rfl (lsub_c rfl lsub_n))
set_option maxRecDepth 20000 in
set_option maxHeartbeats 1000000 in
theorem b_X7_tick {K : Kt}  (hO : Ok K cX7_tick RX7 3 rm_X7_tick) (hR : Rt K (some .int))   (σ : Wd) : Cm K 3 (0, 0) (f_X7_tick  σ) σ 0 [(0, .ref (K.G.A 102))] [] := by
  refine r_aload_n (i := 0) hO rfl rfl dX7_tick_0 ?_
  refine gX7_44 hO dX7_tick_1 ?_
  refine r_bipush hO bi_37 dX7_tick_4 ?_
  refine r_dup2 hO rfl rfl dX7_tick_6 ?_
  refine r_iald hO s_112 dX7_tick_7 ?_
  refine r_iconst hO ci_1 dX7_tick_8 ?_
  refine r_iadd hO dX7_tick_9 ?_
  refine r_iast hO s_112 dX7_tick_10 ?_
  refine r_nmW fun σ1 => ?_
  refine r_iconst hO ci_0 dX7_tick_11 ?_
  refine r_istore_n (i := 1) hO rfl rfl rfl dX7_tick_12 ?_
  exact r_jmp (b_X7_tick_13 hO hR FU (0 : Int32) σ1) (lsub_c rfl (lsub_c rfl lsub_n))
theorem c_X7_tick {l : Launch} {G : Gh}    (σ : Wd) : Con l G yX7_tick cX7_tick 3 (some .int) 8 186 [.ref (G.A 102)] σ (f_X7_tick  σ) := Con.of (plainFor_of_name (by decide)) rfl (Nat.le_of_ble_eq_true rfl) (fun K hl hG hO hR => by subst hl; subst hG; exact b_X7_tick hO hR   σ)
theorem cal_X7_tick : CalV yX7_tick cX7_tick 3 (some .int) 0 := ⟨a_798, a_799, a_800, a_464, by decide, by decide, by decide +kernel⟩
theorem k_X7_tick {K : Kt} {nL : Nat} {cs : Nat × Nat} {σ : Wd} {pc : Nat} {lv : List (Nat × Value)} {st : List Value} {cc : ByteArray} {own : String} {rm : Room} {index : Nat} {g : Int32 → Wd → Option (Int32 × Wd)}  (hO : Ok K cc own nL rm)  (hl : Cond.methodLink own index yX7_tick ∈ gtb) (hcat : Nat.ble ((st.map fun v => v.category).sum) 8 = true) (hR : RoomOk rm cs 8 186 3) (d : decode cc pc = .ok (.invokevirtual index, 3)) (kk : ∀ (r : Int32) (σ : Wd), Cm K nL cs (g r σ) σ (pc + 3) lv (.int r :: st)) : Cm K nL cs (bd (f_X7_tick  σ) g) σ pc lv (.ref (K.G.A 102) :: st) := r_cVi hO (c_X7_tick   σ) cal_X7_tick hl rfl (by decide) ent_X7 rfl rfl hcat hR d kk

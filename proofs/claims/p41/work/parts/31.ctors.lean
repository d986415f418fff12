def s0 : Nat → Nat → Int32 := fun k => match k with
  | 1 => fun j => match j with
    | 2 => -1
    | _ => 0
  | 10 => fun j => match j with
    | 1 => -2147483648
    | _ => 0
  | 102 => fun j => match j with
    | 2 => -1
    | _ => 0
  | _ => fun _ => 0
def r0 : Nat → Nat → Nat := fun k => match k with
  | 0 => fun j => match j with
    | 3 => 11
    | 4 => 24
    | _ => 0
  | _ => fun _ => 0
abbrev gA (G : Gh) (B : Nat → Nat) : Gh := (G.1, B, G.2.2)
def aI (G : Gh) (n : Nat) : va_E := .inl (G.T.1, n, .inl (fun _ => 0))
def F_X5 (G : Gh) (B : Nat → Nat) : va_W := [(B 0, oX5 B 0 (s0 1)), (B 1, .inl (G.T.2.1, 900, .inl (fun _ => 0))), (B 2, aI G 5)]
def F_X1 (G : Gh) (B : Nat → Nat) : va_W := [(B 0, oX1 B 0 (fun _ => 0)), (B 1, aI G 5), (B 2, aI G 5), (B 3, aI G 605), (B 4, aI G 726), (B 5, aI G 121)]
def F_X0 (G : Gh) (B : Nat → Nat) : va_W := [(B 0, oX0 (s0 10))]
def F_X3 (G : Gh) (B : Nat → Nat) : va_W := [(B 0, oX3 B 0 (fun _ => 0)), (B 1, aI G 5), (B 2, aI G 5), (B 3, aI G 5), (B 4, aI G 5), (B 5, aI G 5), (B 6, aI G 5), (B 7, aI G 5), (B 8, aI G 30), (B 9, aI G 30), (B 10, aI G 10), (B 11, aI G 10), (B 12, aI G 10)]
def F_X2 (G : Gh) (B : Nat → Nat) : va_W := [(B 0, oX2 B 0 (fun _ => 0)), (B 1, aI G 30), (B 2, aI G 30), (B 3, aI G 30)]
def F_X4 (G : Gh) (B : Nat → Nat) : va_W := [(B 0, oX4 B 0 (fun _ => 0)), (B 1, aI G 5), (B 2, aI G 5), (B 3, aI G 5), (B 4, aI G 5), (B 5, aI G 5), (B 6, aI G 5), (B 7, aI G 5), (B 8, aI G 5), (B 9, oX2 B 9 (fun _ => 0)), (B 10, aI G 30), (B 11, aI G 30), (B 12, aI G 30)]
def wsR (G : Gh) (B : Nat → Nat) (b n : Nat) : va_W := (List.range n).map (fun k => (B (b + k), entK (gA G B) (b + k) (s0 (b + k)) (fun _ => 0) (r0 (b + k))))
def F_X6 (G : Gh) (B : Nat → Nat) : va_W := wsR G B 0 102
def F_X7 (G : Gh) (B : Nat → Nat) : va_W := wsR G (fun k => B (k - 102)) 102 18
set_option maxRecDepth 100000 in
set_option maxHeartbeats 4000000 in
theorem c_X5_init {l : Launch} (G : Gh) : Cob l G yX5_init cX5_init 1 1 20 2 905 (.inr (5, [.int 0, .int 0, .int 0, .null, .null, .int 0, .int 0, .int 0, .int 0, .int 0, .int 0]) : va_E) (F_X5 G) := by
  refine Cob.of (plainFor_of_name (by decide)) rfl rfl (Nat.le_refl _) ?_
  intro K h0 hl hG hO hr hin hg
  subst hl; subst hG
  refine q_aload (i := 0) hO rfl rfl dX5_init_0 ?_
  refine q_obj hO a_1058 a_1059 a_1060 dX5_init_1 (by decide) (by decide) ?_
  refine q_aload (i := 0) hO rfl rfl dX5_init_4 ?_
  refine q_iconst hO ci_0 dX5_init_5 ?_
  refine q_put (ws' := [(h0, .inr (5, [.int (0 : Int32), .int 0, .int 0, .null, .null, .int 0, .int 0, .int 0, .int 0, .int 0, .int 0]))]) (ty := .int) (q0 := 0) (ci := 5) 0 hO inX5 tyX5 tyX5_ok nmX5 rfl rfl (by decide) a_934 rfl (by decide +kernel) rfl rfl (Nat.le_of_ble_eq_true rfl) rfl dX5_init_6 ?_
  refine q_aload (i := 0) hO rfl rfl dX5_init_9 ?_
  refine q_iconst hO ci_0 dX5_init_10 ?_
  refine q_put (ws' := [(h0, .inr (5, [.int (0 : Int32), .int (0 : Int32), .int 0, .null, .null, .int 0, .int 0, .int 0, .int 0, .int 0, .int 0]))]) (ty := .int) (q0 := 0) (ci := 5) 1 hO inX5 tyX5 tyX5_ok nmX5 rfl rfl (by decide) a_1045 rfl (by decide +kernel) rfl rfl (Nat.le_of_ble_eq_true rfl) rfl dX5_init_11 ?_
  refine q_aload (i := 0) hO rfl rfl dX5_init_14 ?_
  refine q_iconst hO ci_m1 dX5_init_15 ?_
  refine q_put (ws' := [(h0, .inr (5, [.int (0 : Int32), .int (0 : Int32), .int (-1 : Int32), .null, .null, .int 0, .int 0, .int 0, .int 0, .int 0, .int 0]))]) (ty := .int) (q0 := 0) (ci := 5) 2 hO inX5 tyX5 tyX5_ok nmX5 rfl rfl (by decide) a_1046 rfl (by decide +kernel) rfl rfl (Nat.le_of_ble_eq_true rfl) rfl dX5_init_16 ?_
  refine q_aload (i := 0) hO rfl rfl dX5_init_19 ?_
  refine q_sipush hO si_900 dX5_init_20 ?_
  refine q_newa (atype := .byte) (a0 := (900, .inl (fun _ => 0))) (N := 900) (t0 := 1) (cA := K.G.T.2.1) (ty := .byte) hO hg a_1061 rfl rfl (fun h => h) (fun _ h => h) (fun _ => rfl) (by decide) rfl (by decide) (Nat.le_of_ble_eq_true rfl) (Nat.le_of_ble_eq_true rfl) dX5_init_23 (fun q1 => ?_)
  refine q_putF (ws' := [(h0, .inr (5, [.int (0 : Int32), .int (0 : Int32), .int (-1 : Int32), .ref q1, .null, .int 0, .int 0, .int 0, .int 0, .int 0, .int 0])), (q1, .inl (K.G.T.2.1, 900, .inl (fun _ => 0)))]) (ty := (.array .byte)) (q0 := 0) (ci := 5) 3 hO hin inX5 tyX5 tyX5_ok nmX5 rfl rfl (by decide) a_935 rfl rfl (by decide +kernel) rfl rfl (Nat.le_of_ble_eq_true rfl) rfl dX5_init_25 ?_
  refine q_aload (i := 0) hO rfl rfl dX5_init_28 ?_
  refine q_iconst hO ci_5 dX5_init_29 ?_
  refine q_newa (atype := .int) (a0 := (5, .inl (fun _ => 0))) (N := 5) (t0 := 0) (cA := K.G.T.1) (ty := .int) hO hg a_1062 rfl rfl (fun h => h) (fun _ h => h) (fun _ => rfl) (by decide) rfl (by decide) (Nat.le_of_ble_eq_true rfl) (Nat.le_of_ble_eq_true rfl) dX5_init_30 (fun q2 => ?_)
  refine q_putF (ws' := [(h0, .inr (5, [.int (0 : Int32), .int (0 : Int32), .int (-1 : Int32), .ref q1, .ref q2, .int 0, .int 0, .int 0, .int 0, .int 0, .int 0])), (q1, .inl (K.G.T.2.1, 900, .inl (fun _ => 0))), (q2, .inl (K.G.T.1, 5, .inl (fun _ => 0)))]) (ty := (.array .int)) (q0 := 0) (ci := 5) 4 hO hin inX5 tyX5 tyX5_ok nmX5 rfl rfl (by decide) a_943 rfl rfl (by decide +kernel) rfl rfl (Nat.le_of_ble_eq_true rfl) rfl dX5_init_32 ?_
  refine q_aload (i := 0) hO rfl rfl dX5_init_35 ?_
  refine q_iconst hO ci_0 dX5_init_36 ?_
  refine q_put (ws' := [(h0, .inr (5, [.int (0 : Int32), .int (0 : Int32), .int (-1 : Int32), .ref q1, .ref q2, .int (0 : Int32), .int 0, .int 0, .int 0, .int 0, .int 0])), (q1, .inl (K.G.T.2.1, 900, .inl (fun _ => 0))), (q2, .inl (K.G.T.1, 5, .inl (fun _ => 0)))]) (ty := .int) (q0 := 0) (ci := 5) 5 hO inX5 tyX5 tyX5_ok nmX5 rfl rfl (by decide) a_938 rfl (by decide +kernel) rfl rfl (Nat.le_of_ble_eq_true rfl) rfl dX5_init_37 ?_
  refine q_aload (i := 0) hO rfl rfl dX5_init_40 ?_
  refine q_iconst hO ci_0 dX5_init_41 ?_
  refine q_put (ws' := [(h0, .inr (5, [.int (0 : Int32), .int (0 : Int32), .int (-1 : Int32), .ref q1, .ref q2, .int (0 : Int32), .int (0 : Int32), .int 0, .int 0, .int 0, .int 0])), (q1, .inl (K.G.T.2.1, 900, .inl (fun _ => 0))), (q2, .inl (K.G.T.1, 5, .inl (fun _ => 0)))]) (ty := .int) (q0 := 0) (ci := 5) 6 hO inX5 tyX5 tyX5_ok nmX5 rfl rfl (by decide) a_937 rfl (by decide +kernel) rfl rfl (Nat.le_of_ble_eq_true rfl) rfl dX5_init_42 ?_
  refine q_aload (i := 0) hO rfl rfl dX5_init_45 ?_
  refine q_iconst hO ci_0 dX5_init_46 ?_
  refine q_put (ws' := [(h0, .inr (5, [.int (0 : Int32), .int (0 : Int32), .int (-1 : Int32), .ref q1, .ref q2, .int (0 : Int32), .int (0 : Int32), .int (0 : Int32), .int 0, .int 0, .int 0])), (q1, .inl (K.G.T.2.1, 900, .inl (fun _ => 0))), (q2, .inl (K.G.T.1, 5, .inl (fun _ => 0)))]) (ty := .int) (q0 := 0) (ci := 5) 7 hO inX5 tyX5 tyX5_ok nmX5 rfl rfl (by decide) a_936 rfl (by decide +kernel) rfl rfl (Nat.le_of_ble_eq_true rfl) rfl dX5_init_47 ?_
  refine q_aload (i := 0) hO rfl rfl dX5_init_50 ?_
  refine q_iconst hO ci_0 dX5_init_51 ?_
  refine q_put (ws' := [(h0, .inr (5, [.int (0 : Int32), .int (0 : Int32), .int (-1 : Int32), .ref q1, .ref q2, .int (0 : Int32), .int (0 : Int32), .int (0 : Int32), .int (0 : Int32), .int 0, .int 0])), (q1, .inl (K.G.T.2.1, 900, .inl (fun _ => 0))), (q2, .inl (K.G.T.1, 5, .inl (fun _ => 0)))]) (ty := .int) (q0 := 0) (ci := 5) 8 hO inX5 tyX5 tyX5_ok nmX5 rfl rfl (by decide) a_939 rfl (by decide +kernel) rfl rfl (Nat.le_of_ble_eq_true rfl) rfl dX5_init_52 ?_
  refine q_aload (i := 0) hO rfl rfl dX5_init_55 ?_
  refine q_iconst hO ci_0 dX5_init_56 ?_
  refine q_put (ws' := [(h0, .inr (5, [.int (0 : Int32), .int (0 : Int32), .int (-1 : Int32), .ref q1, .ref q2, .int (0 : Int32), .int (0 : Int32), .int (0 : Int32), .int (0 : Int32), .int (0 : Int32), .int 0])), (q1, .inl (K.G.T.2.1, 900, .inl (fun _ => 0))), (q2, .inl (K.G.T.1, 5, .inl (fun _ => 0)))]) (ty := .int) (q0 := 0) (ci := 5) 9 hO inX5 tyX5 tyX5_ok nmX5 rfl rfl (by decide) a_940 rfl (by decide +kernel) rfl rfl (Nat.le_of_ble_eq_true rfl) rfl dX5_init_57 ?_
  refine q_aload (i := 0) hO rfl rfl dX5_init_60 ?_
  refine q_iconst hO ci_0 dX5_init_61 ?_
  refine q_put (ws' := [(h0, .inr (5, [.int (0 : Int32), .int (0 : Int32), .int (-1 : Int32), .ref q1, .ref q2, .int (0 : Int32), .int (0 : Int32), .int (0 : Int32), .int (0 : Int32), .int (0 : Int32), .int (0 : Int32)])), (q1, .inl (K.G.T.2.1, 900, .inl (fun _ => 0))), (q2, .inl (K.G.T.1, 5, .inl (fun _ => 0)))]) (ty := .int) (q0 := 0) (ci := 5) 10 hO inX5 tyX5 tyX5_ok nmX5 rfl rfl (by decide) a_942 rfl (by decide +kernel) rfl rfl (Nat.le_of_ble_eq_true rfl) rfl dX5_init_62 ?_
  exact q_ret (B := fun k => match k with | 0 => h0 | 1 => q1 | 2 => q2 | _ => 0) (F := F_X5 K.G) hO hr hg rfl rfl (Nat.le_of_ble_eq_true rfl) (Nat.le_of_ble_eq_true rfl) dX5_init_65
theorem cal_X5_init : CalI yX5_init cX5_init 1 := ⟨a_1063, a_1064, a_217, rfl, by decide, by decide, by decide +kernel⟩
set_option maxRecDepth 100000 in
set_option maxHeartbeats 4000000 in
theorem c_X1_init {l : Launch} (G : Gh) : Cob l G yX1_init cX1_init 1 1 20 5 1462 (.inr (1, [.int 0, .int 0, .null, .null, .null, .null, .null]) : va_E) (F_X1 G) := by
  refine Cob.of (plainFor_of_name (by decide)) rfl rfl (Nat.le_refl _) ?_
  intro K h0 hl hG hO hr hin hg
  subst hl; subst hG
  refine q_aload (i := 0) hO rfl rfl dX1_init_0 ?_
  refine q_obj hO a_1065 a_1059 a_1060 dX1_init_1 (by decide) (by decide) ?_
  refine q_aload (i := 0) hO rfl rfl dX1_init_4 ?_
  refine q_iconst hO ci_0 dX1_init_5 ?_
  refine q_put (ws' := [(h0, .inr (1, [.int (0 : Int32), .int 0, .null, .null, .null, .null, .null]))]) (ty := .int) (q0 := 0) (ci := 1) 0 hO inX1 tyX1 tyX1_ok nmX1 rfl rfl (by decide) a_888 rfl (by decide +kernel) rfl rfl (Nat.le_of_ble_eq_true rfl) rfl dX1_init_6 ?_
  refine q_aload (i := 0) hO rfl rfl dX1_init_9 ?_
  refine q_iconst hO ci_0 dX1_init_10 ?_
  refine q_put (ws' := [(h0, .inr (1, [.int (0 : Int32), .int (0 : Int32), .null, .null, .null, .null, .null]))]) (ty := .int) (q0 := 0) (ci := 1) 1 hO inX1 tyX1 tyX1_ok nmX1 rfl rfl (by decide) a_890 rfl (by decide +kernel) rfl rfl (Nat.le_of_ble_eq_true rfl) rfl dX1_init_11 ?_
  refine q_aload (i := 0) hO rfl rfl dX1_init_14 ?_
  refine q_iconst hO ci_5 dX1_init_15 ?_
  refine q_newa (atype := .int) (a0 := (5, .inl (fun _ => 0))) (N := 5) (t0 := 0) (cA := K.G.T.1) (ty := .int) hO hg a_1062 rfl rfl (fun h => h) (fun _ h => h) (fun _ => rfl) (by decide) rfl (by decide) (Nat.le_of_ble_eq_true rfl) (Nat.le_of_ble_eq_true rfl) dX1_init_16 (fun q1 => ?_)
  refine q_putF (ws' := [(h0, .inr (1, [.int (0 : Int32), .int (0 : Int32), .ref q1, .null, .null, .null, .null])), (q1, .inl (K.G.T.1, 5, .inl (fun _ => 0)))]) (ty := (.array .int)) (q0 := 0) (ci := 1) 2 hO hin inX1 tyX1 tyX1_ok nmX1 rfl rfl (by decide) a_889 rfl rfl (by decide +kernel) rfl rfl (Nat.le_of_ble_eq_true rfl) rfl dX1_init_18 ?_
  refine q_aload (i := 0) hO rfl rfl dX1_init_21 ?_
  refine q_iconst hO ci_5 dX1_init_22 ?_
  refine q_newa (atype := .int) (a0 := (5, .inl (fun _ => 0))) (N := 5) (t0 := 0) (cA := K.G.T.1) (ty := .int) hO hg a_1062 rfl rfl (fun h => h) (fun _ h => h) (fun _ => rfl) (by decide) rfl (by decide) (Nat.le_of_ble_eq_true rfl) (Nat.le_of_ble_eq_true rfl) dX1_init_23 (fun q2 => ?_)
  refine q_putF (ws' := [(h0, .inr (1, [.int (0 : Int32), .int (0 : Int32), .ref q1, .ref q2, .null, .null, .null])), (q1, .inl (K.G.T.1, 5, .inl (fun _ => 0))), (q2, .inl (K.G.T.1, 5, .inl (fun _ => 0)))]) (ty := (.array .int)) (q0 := 0) (ci := 1) 3 hO hin inX1 tyX1 tyX1_ok nmX1 rfl rfl (by decide) a_885 rfl rfl (by decide +kernel) rfl rfl (Nat.le_of_ble_eq_true rfl) rfl dX1_init_25 ?_
  refine q_aload (i := 0) hO rfl rfl dX1_init_28 ?_
  refine q_sipush hO si_605 dX1_init_29 ?_
  refine q_newa (atype := .int) (a0 := (605, .inl (fun _ => 0))) (N := 605) (t0 := 0) (cA := K.G.T.1) (ty := .int) hO hg a_1062 rfl rfl (fun h => h) (fun _ h => h) (fun _ => rfl) (by decide) rfl (by decide) (Nat.le_of_ble_eq_true rfl) (Nat.le_of_ble_eq_true rfl) dX1_init_32 (fun q3 => ?_)
  refine q_putF (ws' := [(h0, .inr (1, [.int (0 : Int32), .int (0 : Int32), .ref q1, .ref q2, .ref q3, .null, .null])), (q1, .inl (K.G.T.1, 5, .inl (fun _ => 0))), (q2, .inl (K.G.T.1, 5, .inl (fun _ => 0))), (q3, .inl (K.G.T.1, 605, .inl (fun _ => 0)))]) (ty := (.array .int)) (q0 := 0) (ci := 1) 4 hO hin inX1 tyX1 tyX1_ok nmX1 rfl rfl (by decide) a_886 rfl rfl (by decide +kernel) rfl rfl (Nat.le_of_ble_eq_true rfl) rfl dX1_init_34 ?_
  refine q_aload (i := 0) hO rfl rfl dX1_init_37 ?_
  refine q_sipush hO si_726 dX1_init_38 ?_
  refine q_newa (atype := .int) (a0 := (726, .inl (fun _ => 0))) (N := 726) (t0 := 0) (cA := K.G.T.1) (ty := .int) hO hg a_1062 rfl rfl (fun h => h) (fun _ h => h) (fun _ => rfl) (by decide) rfl (by decide) (Nat.le_of_ble_eq_true rfl) (Nat.le_of_ble_eq_true rfl) dX1_init_41 (fun q4 => ?_)
  refine q_putF (ws' := [(h0, .inr (1, [.int (0 : Int32), .int (0 : Int32), .ref q1, .ref q2, .ref q3, .ref q4, .null])), (q1, .inl (K.G.T.1, 5, .inl (fun _ => 0))), (q2, .inl (K.G.T.1, 5, .inl (fun _ => 0))), (q3, .inl (K.G.T.1, 605, .inl (fun _ => 0))), (q4, .inl (K.G.T.1, 726, .inl (fun _ => 0)))]) (ty := (.array .int)) (q0 := 0) (ci := 1) 5 hO hin inX1 tyX1 tyX1_ok nmX1 rfl rfl (by decide) a_887 rfl rfl (by decide +kernel) rfl rfl (Nat.le_of_ble_eq_true rfl) rfl dX1_init_43 ?_
  refine q_aload (i := 0) hO rfl rfl dX1_init_46 ?_
  refine q_bipush hO bi_121 dX1_init_47 ?_
  refine q_newa (atype := .int) (a0 := (121, .inl (fun _ => 0))) (N := 121) (t0 := 0) (cA := K.G.T.1) (ty := .int) hO hg a_1062 rfl rfl (fun h => h) (fun _ h => h) (fun _ => rfl) (by decide) rfl (by decide) (Nat.le_of_ble_eq_true rfl) (Nat.le_of_ble_eq_true rfl) dX1_init_49 (fun q5 => ?_)
  refine q_putF (ws' := [(h0, .inr (1, [.int (0 : Int32), .int (0 : Int32), .ref q1, .ref q2, .ref q3, .ref q4, .ref q5])), (q1, .inl (K.G.T.1, 5, .inl (fun _ => 0))), (q2, .inl (K.G.T.1, 5, .inl (fun _ => 0))), (q3, .inl (K.G.T.1, 605, .inl (fun _ => 0))), (q4, .inl (K.G.T.1, 726, .inl (fun _ => 0))), (q5, .inl (K.G.T.1, 121, .inl (fun _ => 0)))]) (ty := (.array .int)) (q0 := 0) (ci := 1) 6 hO hin inX1 tyX1 tyX1_ok nmX1 rfl rfl (by decide) a_891 rfl rfl (by decide +kernel) rfl rfl (Nat.le_of_ble_eq_true rfl) rfl dX1_init_51 ?_
  exact q_ret (B := fun k => match k with | 0 => h0 | 1 => q1 | 2 => q2 | 3 => q3 | 4 => q4 | 5 => q5 | _ => 0) (F := F_X1 K.G) hO hr hg rfl rfl (Nat.le_of_ble_eq_true rfl) (Nat.le_of_ble_eq_true rfl) dX1_init_54
theorem cal_X1_init : CalI yX1_init cX1_init 1 := ⟨a_1066, a_1067, a_48, rfl, by decide, by decide, by decide +kernel⟩
set_option maxRecDepth 100000 in
set_option maxHeartbeats 4000000 in
theorem c_X0_init {l : Launch} (G : Gh) : Cob l G yX0_init cX0_init 1 1 20 0 0 (.inr (0, [.int 0, .int 0]) : va_E) (F_X0 G) := by
  refine Cob.of (plainFor_of_name (by decide)) rfl rfl (Nat.le_refl _) ?_
  intro K h0 hl hG hO hr hin hg
  subst hl; subst hG
  refine q_aload (i := 0) hO rfl rfl dX0_init_0 ?_
  refine q_obj hO a_1068 a_1059 a_1060 dX0_init_1 (by decide) (by decide) ?_
  refine q_aload (i := 0) hO rfl rfl dX0_init_4 ?_
  refine q_iconst hO ci_0 dX0_init_5 ?_
  refine q_put (ws' := [(h0, .inr (0, [.int (0 : Int32), .int 0]))]) (ty := .int) (q0 := 0) (ci := 0) 0 hO inX0 tyX0 tyX0_ok nmX0 rfl rfl (by decide) a_877 rfl (by decide +kernel) rfl rfl (Nat.le_of_ble_eq_true rfl) rfl dX0_init_6 ?_
  refine q_aload (i := 0) hO rfl rfl dX0_init_9 ?_
  refine q_ldc hO a_18 dX0_init_10 ?_
  refine q_put (ws' := [(h0, .inr (0, [.int (0 : Int32), .int (-2147483648 : Int32)]))]) (ty := .int) (q0 := 0) (ci := 0) 1 hO inX0 tyX0 tyX0_ok nmX0 rfl rfl (by decide) a_1043 rfl (by decide +kernel) rfl rfl (Nat.le_of_ble_eq_true rfl) rfl dX0_init_12 ?_
  exact q_ret (B := fun k => match k with | 0 => h0 | _ => 0) (F := F_X0 K.G) hO hr hg rfl rfl (Nat.le_of_ble_eq_true rfl) (Nat.le_of_ble_eq_true rfl) dX0_init_15
theorem cal_X0_init : CalI yX0_init cX0_init 1 := ⟨a_1069, a_1070, a_10, rfl, by decide, by decide, by decide +kernel⟩
set_option maxRecDepth 100000 in
set_option maxHeartbeats 4000000 in
theorem c_X3_init {l : Launch} (G : Gh) : Cob l G yX3_init cX3_init 1 1 20 12 125 (.inr (3, [.int 0, .int 0, .int 0, .int 0, .int 0, .null, .null, .null, .null, .null, .null, .null, .null, .null, .null, .null, .null]) : va_E) (F_X3 G) := by
  refine Cob.of (plainFor_of_name (by decide)) rfl rfl (Nat.le_refl _) ?_
  intro K h0 hl hG hO hr hin hg
  subst hl; subst hG
  refine q_aload (i := 0) hO rfl rfl dX3_init_0 ?_
  refine q_obj hO a_1071 a_1059 a_1060 dX3_init_1 (by decide) (by decide) ?_
  refine q_aload (i := 0) hO rfl rfl dX3_init_4 ?_
  refine q_iconst hO ci_0 dX3_init_5 ?_
  refine q_put (ws' := [(h0, .inr (3, [.int (0 : Int32), .int 0, .int 0, .int 0, .int 0, .null, .null, .null, .null, .null, .null, .null, .null, .null, .null, .null, .null]))]) (ty := .int) (q0 := 0) (ci := 3) 0 hO inX3 tyX3 tyX3_ok nmX3 rfl rfl (by decide) a_897 rfl (by decide +kernel) rfl rfl (Nat.le_of_ble_eq_true rfl) rfl dX3_init_6 ?_
  refine q_aload (i := 0) hO rfl rfl dX3_init_9 ?_
  refine q_iconst hO ci_0 dX3_init_10 ?_
  refine q_put (ws' := [(h0, .inr (3, [.int (0 : Int32), .int (0 : Int32), .int 0, .int 0, .int 0, .null, .null, .null, .null, .null, .null, .null, .null, .null, .null, .null, .null]))]) (ty := .int) (q0 := 0) (ci := 3) 1 hO inX3 tyX3 tyX3_ok nmX3 rfl rfl (by decide) a_882 rfl (by decide +kernel) rfl rfl (Nat.le_of_ble_eq_true rfl) rfl dX3_init_11 ?_
  refine q_aload (i := 0) hO rfl rfl dX3_init_14 ?_
  refine q_iconst hO ci_0 dX3_init_15 ?_
  refine q_put (ws' := [(h0, .inr (3, [.int (0 : Int32), .int (0 : Int32), .int (0 : Int32), .int 0, .int 0, .null, .null, .null, .null, .null, .null, .null, .null, .null, .null, .null, .null]))]) (ty := .int) (q0 := 0) (ci := 3) 2 hO inX3 tyX3 tyX3_ok nmX3 rfl rfl (by decide) a_898 rfl (by decide +kernel) rfl rfl (Nat.le_of_ble_eq_true rfl) rfl dX3_init_16 ?_
  refine q_aload (i := 0) hO rfl rfl dX3_init_19 ?_
  refine q_iconst hO ci_0 dX3_init_20 ?_
  refine q_put (ws' := [(h0, .inr (3, [.int (0 : Int32), .int (0 : Int32), .int (0 : Int32), .int (0 : Int32), .int 0, .null, .null, .null, .null, .null, .null, .null, .null, .null, .null, .null, .null]))]) (ty := .int) (q0 := 0) (ci := 3) 3 hO inX3 tyX3 tyX3_ok nmX3 rfl rfl (by decide) a_899 rfl (by decide +kernel) rfl rfl (Nat.le_of_ble_eq_true rfl) rfl dX3_init_21 ?_
  refine q_aload (i := 0) hO rfl rfl dX3_init_24 ?_
  refine q_iconst hO ci_0 dX3_init_25 ?_
  refine q_put (ws' := [(h0, .inr (3, [.int (0 : Int32), .int (0 : Int32), .int (0 : Int32), .int (0 : Int32), .int (0 : Int32), .null, .null, .null, .null, .null, .null, .null, .null, .null, .null, .null, .null]))]) (ty := .int) (q0 := 0) (ci := 3) 4 hO inX3 tyX3 tyX3_ok nmX3 rfl rfl (by decide) a_900 rfl (by decide +kernel) rfl rfl (Nat.le_of_ble_eq_true rfl) rfl dX3_init_26 ?_
  refine q_aload (i := 0) hO rfl rfl dX3_init_29 ?_
  refine q_iconst hO ci_5 dX3_init_30 ?_
  refine q_newa (atype := .int) (a0 := (5, .inl (fun _ => 0))) (N := 5) (t0 := 0) (cA := K.G.T.1) (ty := .int) hO hg a_1062 rfl rfl (fun h => h) (fun _ h => h) (fun _ => rfl) (by decide) rfl (by decide) (Nat.le_of_ble_eq_true rfl) (Nat.le_of_ble_eq_true rfl) dX3_init_31 (fun q1 => ?_)
  refine q_putF (ws' := [(h0, .inr (3, [.int (0 : Int32), .int (0 : Int32), .int (0 : Int32), .int (0 : Int32), .int (0 : Int32), .ref q1, .null, .null, .null, .null, .null, .null, .null, .null, .null, .null, .null])), (q1, .inl (K.G.T.1, 5, .inl (fun _ => 0)))]) (ty := (.array .int)) (q0 := 0) (ci := 3) 5 hO hin inX3 tyX3 tyX3_ok nmX3 rfl rfl (by decide) a_870 rfl rfl (by decide +kernel) rfl rfl (Nat.le_of_ble_eq_true rfl) rfl dX3_init_33 ?_
  refine q_aload (i := 0) hO rfl rfl dX3_init_36 ?_
  refine q_iconst hO ci_5 dX3_init_37 ?_
  refine q_newa (atype := .int) (a0 := (5, .inl (fun _ => 0))) (N := 5) (t0 := 0) (cA := K.G.T.1) (ty := .int) hO hg a_1062 rfl rfl (fun h => h) (fun _ h => h) (fun _ => rfl) (by decide) rfl (by decide) (Nat.le_of_ble_eq_true rfl) (Nat.le_of_ble_eq_true rfl) dX3_init_38 (fun q2 => ?_)
  refine q_putF (ws' := [(h0, .inr (3, [.int (0 : Int32), .int (0 : Int32), .int (0 : Int32), .int (0 : Int32), .int (0 : Int32), .ref q1, .ref q2, .null, .null, .null, .null, .null, .null, .null, .null, .null, .null])), (q1, .inl (K.G.T.1, 5, .inl (fun _ => 0))), (q2, .inl (K.G.T.1, 5, .inl (fun _ => 0)))]) (ty := (.array .int)) (q0 := 0) (ci := 3) 6 hO hin inX3 tyX3 tyX3_ok nmX3 rfl rfl (by decide) a_881 rfl rfl (by decide +kernel) rfl rfl (Nat.le_of_ble_eq_true rfl) rfl dX3_init_40 ?_
  refine q_aload (i := 0) hO rfl rfl dX3_init_43 ?_
  refine q_iconst hO ci_5 dX3_init_44 ?_
  refine q_newa (atype := .int) (a0 := (5, .inl (fun _ => 0))) (N := 5) (t0 := 0) (cA := K.G.T.1) (ty := .int) hO hg a_1062 rfl rfl (fun h => h) (fun _ h => h) (fun _ => rfl) (by decide) rfl (by decide) (Nat.le_of_ble_eq_true rfl) (Nat.le_of_ble_eq_true rfl) dX3_init_45 (fun q3 => ?_)
  refine q_putF (ws' := [(h0, .inr (3, [.int (0 : Int32), .int (0 : Int32), .int (0 : Int32), .int (0 : Int32), .int (0 : Int32), .ref q1, .ref q2, .ref q3, .null, .null, .null, .null, .null, .null, .null, .null, .null])), (q1, .inl (K.G.T.1, 5, .inl (fun _ => 0))), (q2, .inl (K.G.T.1, 5, .inl (fun _ => 0))), (q3, .inl (K.G.T.1, 5, .inl (fun _ => 0)))]) (ty := (.array .int)) (q0 := 0) (ci := 3) 7 hO hin inX3 tyX3 tyX3_ok nmX3 rfl rfl (by decide) a_871 rfl rfl (by decide +kernel) rfl rfl (Nat.le_of_ble_eq_true rfl) rfl dX3_init_47 ?_
  refine q_aload (i := 0) hO rfl rfl dX3_init_50 ?_
  refine q_iconst hO ci_5 dX3_init_51 ?_
  refine q_newa (atype := .int) (a0 := (5, .inl (fun _ => 0))) (N := 5) (t0 := 0) (cA := K.G.T.1) (ty := .int) hO hg a_1062 rfl rfl (fun h => h) (fun _ h => h) (fun _ => rfl) (by decide) rfl (by decide) (Nat.le_of_ble_eq_true rfl) (Nat.le_of_ble_eq_true rfl) dX3_init_52 (fun q4 => ?_)
  refine q_putF (ws' := [(h0, .inr (3, [.int (0 : Int32), .int (0 : Int32), .int (0 : Int32), .int (0 : Int32), .int (0 : Int32), .ref q1, .ref q2, .ref q3, .ref q4, .null, .null, .null, .null, .null, .null, .null, .null])), (q1, .inl (K.G.T.1, 5, .inl (fun _ => 0))), (q2, .inl (K.G.T.1, 5, .inl (fun _ => 0))), (q3, .inl (K.G.T.1, 5, .inl (fun _ => 0))), (q4, .inl (K.G.T.1, 5, .inl (fun _ => 0)))]) (ty := (.array .int)) (q0 := 0) (ci := 3) 8 hO hin inX3 tyX3 tyX3_ok nmX3 rfl rfl (by decide) a_883 rfl rfl (by decide +kernel) rfl rfl (Nat.le_of_ble_eq_true rfl) rfl dX3_init_54 ?_
  refine q_aload (i := 0) hO rfl rfl dX3_init_57 ?_
  refine q_iconst hO ci_5 dX3_init_58 ?_
  refine q_newa (atype := .int) (a0 := (5, .inl (fun _ => 0))) (N := 5) (t0 := 0) (cA := K.G.T.1) (ty := .int) hO hg a_1062 rfl rfl (fun h => h) (fun _ h => h) (fun _ => rfl) (by decide) rfl (by decide) (Nat.le_of_ble_eq_true rfl) (Nat.le_of_ble_eq_true rfl) dX3_init_59 (fun q5 => ?_)
  refine q_putF (ws' := [(h0, .inr (3, [.int (0 : Int32), .int (0 : Int32), .int (0 : Int32), .int (0 : Int32), .int (0 : Int32), .ref q1, .ref q2, .ref q3, .ref q4, .ref q5, .null, .null, .null, .null, .null, .null, .null])), (q1, .inl (K.G.T.1, 5, .inl (fun _ => 0))), (q2, .inl (K.G.T.1, 5, .inl (fun _ => 0))), (q3, .inl (K.G.T.1, 5, .inl (fun _ => 0))), (q4, .inl (K.G.T.1, 5, .inl (fun _ => 0))), (q5, .inl (K.G.T.1, 5, .inl (fun _ => 0)))]) (ty := (.array .int)) (q0 := 0) (ci := 3) 9 hO hin inX3 tyX3 tyX3_ok nmX3 rfl rfl (by decide) a_901 rfl rfl (by decide +kernel) rfl rfl (Nat.le_of_ble_eq_true rfl) rfl dX3_init_61 ?_
  refine q_aload (i := 0) hO rfl rfl dX3_init_64 ?_
  refine q_iconst hO ci_5 dX3_init_65 ?_
  refine q_newa (atype := .int) (a0 := (5, .inl (fun _ => 0))) (N := 5) (t0 := 0) (cA := K.G.T.1) (ty := .int) hO hg a_1062 rfl rfl (fun h => h) (fun _ h => h) (fun _ => rfl) (by decide) rfl (by decide) (Nat.le_of_ble_eq_true rfl) (Nat.le_of_ble_eq_true rfl) dX3_init_66 (fun q6 => ?_)
  refine q_putF (ws' := [(h0, .inr (3, [.int (0 : Int32), .int (0 : Int32), .int (0 : Int32), .int (0 : Int32), .int (0 : Int32), .ref q1, .ref q2, .ref q3, .ref q4, .ref q5, .ref q6, .null, .null, .null, .null, .null, .null])), (q1, .inl (K.G.T.1, 5, .inl (fun _ => 0))), (q2, .inl (K.G.T.1, 5, .inl (fun _ => 0))), (q3, .inl (K.G.T.1, 5, .inl (fun _ => 0))), (q4, .inl (K.G.T.1, 5, .inl (fun _ => 0))), (q5, .inl (K.G.T.1, 5, .inl (fun _ => 0))), (q6, .inl (K.G.T.1, 5, .inl (fun _ => 0)))]) (ty := (.array .int)) (q0 := 0) (ci := 3) 10 hO hin inX3 tyX3 tyX3_ok nmX3 rfl rfl (by decide) a_878 rfl rfl (by decide +kernel) rfl rfl (Nat.le_of_ble_eq_true rfl) rfl dX3_init_68 ?_
  refine q_aload (i := 0) hO rfl rfl dX3_init_71 ?_
  refine q_iconst hO ci_5 dX3_init_72 ?_
  refine q_newa (atype := .int) (a0 := (5, .inl (fun _ => 0))) (N := 5) (t0 := 0) (cA := K.G.T.1) (ty := .int) hO hg a_1062 rfl rfl (fun h => h) (fun _ h => h) (fun _ => rfl) (by decide) rfl (by decide) (Nat.le_of_ble_eq_true rfl) (Nat.le_of_ble_eq_true rfl) dX3_init_73 (fun q7 => ?_)
  refine q_putF (ws' := [(h0, .inr (3, [.int (0 : Int32), .int (0 : Int32), .int (0 : Int32), .int (0 : Int32), .int (0 : Int32), .ref q1, .ref q2, .ref q3, .ref q4, .ref q5, .ref q6, .ref q7, .null, .null, .null, .null, .null])), (q1, .inl (K.G.T.1, 5, .inl (fun _ => 0))), (q2, .inl (K.G.T.1, 5, .inl (fun _ => 0))), (q3, .inl (K.G.T.1, 5, .inl (fun _ => 0))), (q4, .inl (K.G.T.1, 5, .inl (fun _ => 0))), (q5, .inl (K.G.T.1, 5, .inl (fun _ => 0))), (q6, .inl (K.G.T.1, 5, .inl (fun _ => 0))), (q7, .inl (K.G.T.1, 5, .inl (fun _ => 0)))]) (ty := (.array .int)) (q0 := 0) (ci := 3) 11 hO hin inX3 tyX3 tyX3_ok nmX3 rfl rfl (by decide) a_896 rfl rfl (by decide +kernel) rfl rfl (Nat.le_of_ble_eq_true rfl) rfl dX3_init_75 ?_
  refine q_aload (i := 0) hO rfl rfl dX3_init_78 ?_
  refine q_bipush hO bi_30 dX3_init_79 ?_
  refine q_newa (atype := .int) (a0 := (30, .inl (fun _ => 0))) (N := 30) (t0 := 0) (cA := K.G.T.1) (ty := .int) hO hg a_1062 rfl rfl (fun h => h) (fun _ h => h) (fun _ => rfl) (by decide) rfl (by decide) (Nat.le_of_ble_eq_true rfl) (Nat.le_of_ble_eq_true rfl) dX3_init_81 (fun q8 => ?_)
  refine q_putF (ws' := [(h0, .inr (3, [.int (0 : Int32), .int (0 : Int32), .int (0 : Int32), .int (0 : Int32), .int (0 : Int32), .ref q1, .ref q2, .ref q3, .ref q4, .ref q5, .ref q6, .ref q7, .ref q8, .null, .null, .null, .null])), (q1, .inl (K.G.T.1, 5, .inl (fun _ => 0))), (q2, .inl (K.G.T.1, 5, .inl (fun _ => 0))), (q3, .inl (K.G.T.1, 5, .inl (fun _ => 0))), (q4, .inl (K.G.T.1, 5, .inl (fun _ => 0))), (q5, .inl (K.G.T.1, 5, .inl (fun _ => 0))), (q6, .inl (K.G.T.1, 5, .inl (fun _ => 0))), (q7, .inl (K.G.T.1, 5, .inl (fun _ => 0))), (q8, .inl (K.G.T.1, 30, .inl (fun _ => 0)))]) (ty := (.array .int)) (q0 := 0) (ci := 3) 12 hO hin inX3 tyX3 tyX3_ok nmX3 rfl rfl (by decide) a_879 rfl rfl (by decide +kernel) rfl rfl (Nat.le_of_ble_eq_true rfl) rfl dX3_init_83 ?_
  refine q_aload (i := 0) hO rfl rfl dX3_init_86 ?_
  refine q_bipush hO bi_30 dX3_init_87 ?_
  refine q_newa (atype := .int) (a0 := (30, .inl (fun _ => 0))) (N := 30) (t0 := 0) (cA := K.G.T.1) (ty := .int) hO hg a_1062 rfl rfl (fun h => h) (fun _ h => h) (fun _ => rfl) (by decide) rfl (by decide) (Nat.le_of_ble_eq_true rfl) (Nat.le_of_ble_eq_true rfl) dX3_init_89 (fun q9 => ?_)
  refine q_putF (ws' := [(h0, .inr (3, [.int (0 : Int32), .int (0 : Int32), .int (0 : Int32), .int (0 : Int32), .int (0 : Int32), .ref q1, .ref q2, .ref q3, .ref q4, .ref q5, .ref q6, .ref q7, .ref q8, .ref q9, .null, .null, .null])), (q1, .inl (K.G.T.1, 5, .inl (fun _ => 0))), (q2, .inl (K.G.T.1, 5, .inl (fun _ => 0))), (q3, .inl (K.G.T.1, 5, .inl (fun _ => 0))), (q4, .inl (K.G.T.1, 5, .inl (fun _ => 0))), (q5, .inl (K.G.T.1, 5, .inl (fun _ => 0))), (q6, .inl (K.G.T.1, 5, .inl (fun _ => 0))), (q7, .inl (K.G.T.1, 5, .inl (fun _ => 0))), (q8, .inl (K.G.T.1, 30, .inl (fun _ => 0))), (q9, .inl (K.G.T.1, 30, .inl (fun _ => 0)))]) (ty := (.array .int)) (q0 := 0) (ci := 3) 13 hO hin inX3 tyX3 tyX3_ok nmX3 rfl rfl (by decide) a_880 rfl rfl (by decide +kernel) rfl rfl (Nat.le_of_ble_eq_true rfl) rfl dX3_init_91 ?_
  refine q_aload (i := 0) hO rfl rfl dX3_init_94 ?_
  refine q_bipush hO bi_10 dX3_init_95 ?_
  refine q_newa (atype := .int) (a0 := (10, .inl (fun _ => 0))) (N := 10) (t0 := 0) (cA := K.G.T.1) (ty := .int) hO hg a_1062 rfl rfl (fun h => h) (fun _ h => h) (fun _ => rfl) (by decide) rfl (by decide) (Nat.le_of_ble_eq_true rfl) (Nat.le_of_ble_eq_true rfl) dX3_init_97 (fun q10 => ?_)
  refine q_putF (ws' := [(h0, .inr (3, [.int (0 : Int32), .int (0 : Int32), .int (0 : Int32), .int (0 : Int32), .int (0 : Int32), .ref q1, .ref q2, .ref q3, .ref q4, .ref q5, .ref q6, .ref q7, .ref q8, .ref q9, .ref q10, .null, .null])), (q1, .inl (K.G.T.1, 5, .inl (fun _ => 0))), (q2, .inl (K.G.T.1, 5, .inl (fun _ => 0))), (q3, .inl (K.G.T.1, 5, .inl (fun _ => 0))), (q4, .inl (K.G.T.1, 5, .inl (fun _ => 0))), (q5, .inl (K.G.T.1, 5, .inl (fun _ => 0))), (q6, .inl (K.G.T.1, 5, .inl (fun _ => 0))), (q7, .inl (K.G.T.1, 5, .inl (fun _ => 0))), (q8, .inl (K.G.T.1, 30, .inl (fun _ => 0))), (q9, .inl (K.G.T.1, 30, .inl (fun _ => 0))), (q10, .inl (K.G.T.1, 10, .inl (fun _ => 0)))]) (ty := (.array .int)) (q0 := 0) (ci := 3) 14 hO hin inX3 tyX3 tyX3_ok nmX3 rfl rfl (by decide) a_902 rfl rfl (by decide +kernel) rfl rfl (Nat.le_of_ble_eq_true rfl) rfl dX3_init_99 ?_
  refine q_aload (i := 0) hO rfl rfl dX3_init_102 ?_
  refine q_bipush hO bi_10 dX3_init_103 ?_
  refine q_newa (atype := .int) (a0 := (10, .inl (fun _ => 0))) (N := 10) (t0 := 0) (cA := K.G.T.1) (ty := .int) hO hg a_1062 rfl rfl (fun h => h) (fun _ h => h) (fun _ => rfl) (by decide) rfl (by decide) (Nat.le_of_ble_eq_true rfl) (Nat.le_of_ble_eq_true rfl) dX3_init_105 (fun q11 => ?_)
  refine q_putF (ws' := [(h0, .inr (3, [.int (0 : Int32), .int (0 : Int32), .int (0 : Int32), .int (0 : Int32), .int (0 : Int32), .ref q1, .ref q2, .ref q3, .ref q4, .ref q5, .ref q6, .ref q7, .ref q8, .ref q9, .ref q10, .ref q11, .null])), (q1, .inl (K.G.T.1, 5, .inl (fun _ => 0))), (q2, .inl (K.G.T.1, 5, .inl (fun _ => 0))), (q3, .inl (K.G.T.1, 5, .inl (fun _ => 0))), (q4, .inl (K.G.T.1, 5, .inl (fun _ => 0))), (q5, .inl (K.G.T.1, 5, .inl (fun _ => 0))), (q6, .inl (K.G.T.1, 5, .inl (fun _ => 0))), (q7, .inl (K.G.T.1, 5, .inl (fun _ => 0))), (q8, .inl (K.G.T.1, 30, .inl (fun _ => 0))), (q9, .inl (K.G.T.1, 30, .inl (fun _ => 0))), (q10, .inl (K.G.T.1, 10, .inl (fun _ => 0))), (q11, .inl (K.G.T.1, 10, .inl (fun _ => 0)))]) (ty := (.array .int)) (q0 := 0) (ci := 3) 15 hO hin inX3 tyX3 tyX3_ok nmX3 rfl rfl (by decide) a_903 rfl rfl (by decide +kernel) rfl rfl (Nat.le_of_ble_eq_true rfl) rfl dX3_init_107 ?_
  refine q_aload (i := 0) hO rfl rfl dX3_init_110 ?_
  refine q_bipush hO bi_10 dX3_init_111 ?_
  refine q_newa (atype := .int) (a0 := (10, .inl (fun _ => 0))) (N := 10) (t0 := 0) (cA := K.G.T.1) (ty := .int) hO hg a_1062 rfl rfl (fun h => h) (fun _ h => h) (fun _ => rfl) (by decide) rfl (by decide) (Nat.le_of_ble_eq_true rfl) (Nat.le_of_ble_eq_true rfl) dX3_init_113 (fun q12 => ?_)
  refine q_putF (ws' := [(h0, .inr (3, [.int (0 : Int32), .int (0 : Int32), .int (0 : Int32), .int (0 : Int32), .int (0 : Int32), .ref q1, .ref q2, .ref q3, .ref q4, .ref q5, .ref q6, .ref q7, .ref q8, .ref q9, .ref q10, .ref q11, .ref q12])), (q1, .inl (K.G.T.1, 5, .inl (fun _ => 0))), (q2, .inl (K.G.T.1, 5, .inl (fun _ => 0))), (q3, .inl (K.G.T.1, 5, .inl (fun _ => 0))), (q4, .inl (K.G.T.1, 5, .inl (fun _ => 0))), (q5, .inl (K.G.T.1, 5, .inl (fun _ => 0))), (q6, .inl (K.G.T.1, 5, .inl (fun _ => 0))), (q7, .inl (K.G.T.1, 5, .inl (fun _ => 0))), (q8, .inl (K.G.T.1, 30, .inl (fun _ => 0))), (q9, .inl (K.G.T.1, 30, .inl (fun _ => 0))), (q10, .inl (K.G.T.1, 10, .inl (fun _ => 0))), (q11, .inl (K.G.T.1, 10, .inl (fun _ => 0))), (q12, .inl (K.G.T.1, 10, .inl (fun _ => 0)))]) (ty := (.array .int)) (q0 := 0) (ci := 3) 16 hO hin inX3 tyX3 tyX3_ok nmX3 rfl rfl (by decide) a_904 rfl rfl (by decide +kernel) rfl rfl (Nat.le_of_ble_eq_true rfl) rfl dX3_init_115 ?_
  exact q_ret (B := fun k => match k with | 0 => h0 | 1 => q1 | 2 => q2 | 3 => q3 | 4 => q4 | 5 => q5 | 6 => q6 | 7 => q7 | 8 => q8 | 9 => q9 | 10 => q10 | 11 => q11 | 12 => q12 | _ => 0) (F := F_X3 K.G) hO hr hg rfl rfl (Nat.le_of_ble_eq_true rfl) (Nat.le_of_ble_eq_true rfl) dX3_init_118
theorem cal_X3_init : CalI yX3_init cX3_init 1 := ⟨a_1072, a_1073, a_6, rfl, by decide, by decide, by decide +kernel⟩
set_option maxRecDepth 100000 in
set_option maxHeartbeats 4000000 in
theorem c_X2_init {l : Launch} (G : Gh) : Cob l G yX2_init cX2_init 1 1 20 3 90 (.inr (2, [.int 0, .null, .null, .null]) : va_E) (F_X2 G) := by
  refine Cob.of (plainFor_of_name (by decide)) rfl rfl (Nat.le_refl _) ?_
  intro K h0 hl hG hO hr hin hg
  subst hl; subst hG
  refine q_aload (i := 0) hO rfl rfl dX2_init_0 ?_
  refine q_obj hO a_1074 a_1059 a_1060 dX2_init_1 (by decide) (by decide) ?_
  refine q_aload (i := 0) hO rfl rfl dX2_init_4 ?_
  refine q_iconst hO ci_0 dX2_init_5 ?_
  refine q_put (ws' := [(h0, .inr (2, [.int (0 : Int32), .null, .null, .null]))]) (ty := .int) (q0 := 0) (ci := 2) 0 hO inX2 tyX2 tyX2_ok nmX2 rfl rfl (by decide) a_892 rfl (by decide +kernel) rfl rfl (Nat.le_of_ble_eq_true rfl) rfl dX2_init_6 ?_
  refine q_aload (i := 0) hO rfl rfl dX2_init_9 ?_
  refine q_bipush hO bi_30 dX2_init_10 ?_
  refine q_newa (atype := .int) (a0 := (30, .inl (fun _ => 0))) (N := 30) (t0 := 0) (cA := K.G.T.1) (ty := .int) hO hg a_1062 rfl rfl (fun h => h) (fun _ h => h) (fun _ => rfl) (by decide) rfl (by decide) (Nat.le_of_ble_eq_true rfl) (Nat.le_of_ble_eq_true rfl) dX2_init_12 (fun q1 => ?_)
  refine q_putF (ws' := [(h0, .inr (2, [.int (0 : Int32), .ref q1, .null, .null])), (q1, .inl (K.G.T.1, 30, .inl (fun _ => 0)))]) (ty := (.array .int)) (q0 := 0) (ci := 2) 1 hO hin inX2 tyX2 tyX2_ok nmX2 rfl rfl (by decide) a_893 rfl rfl (by decide +kernel) rfl rfl (Nat.le_of_ble_eq_true rfl) rfl dX2_init_14 ?_
  refine q_aload (i := 0) hO rfl rfl dX2_init_17 ?_
  refine q_bipush hO bi_30 dX2_init_18 ?_
  refine q_newa (atype := .int) (a0 := (30, .inl (fun _ => 0))) (N := 30) (t0 := 0) (cA := K.G.T.1) (ty := .int) hO hg a_1062 rfl rfl (fun h => h) (fun _ h => h) (fun _ => rfl) (by decide) rfl (by decide) (Nat.le_of_ble_eq_true rfl) (Nat.le_of_ble_eq_true rfl) dX2_init_20 (fun q2 => ?_)
  refine q_putF (ws' := [(h0, .inr (2, [.int (0 : Int32), .ref q1, .ref q2, .null])), (q1, .inl (K.G.T.1, 30, .inl (fun _ => 0))), (q2, .inl (K.G.T.1, 30, .inl (fun _ => 0)))]) (ty := (.array .int)) (q0 := 0) (ci := 2) 2 hO hin inX2 tyX2 tyX2_ok nmX2 rfl rfl (by decide) a_894 rfl rfl (by decide +kernel) rfl rfl (Nat.le_of_ble_eq_true rfl) rfl dX2_init_22 ?_
  refine q_aload (i := 0) hO rfl rfl dX2_init_25 ?_
  refine q_bipush hO bi_30 dX2_init_26 ?_
  refine q_newa (atype := .int) (a0 := (30, .inl (fun _ => 0))) (N := 30) (t0 := 0) (cA := K.G.T.1) (ty := .int) hO hg a_1062 rfl rfl (fun h => h) (fun _ h => h) (fun _ => rfl) (by decide) rfl (by decide) (Nat.le_of_ble_eq_true rfl) (Nat.le_of_ble_eq_true rfl) dX2_init_28 (fun q3 => ?_)
  refine q_putF (ws' := [(h0, .inr (2, [.int (0 : Int32), .ref q1, .ref q2, .ref q3])), (q1, .inl (K.G.T.1, 30, .inl (fun _ => 0))), (q2, .inl (K.G.T.1, 30, .inl (fun _ => 0))), (q3, .inl (K.G.T.1, 30, .inl (fun _ => 0)))]) (ty := (.array .int)) (q0 := 0) (ci := 2) 3 hO hin inX2 tyX2 tyX2_ok nmX2 rfl rfl (by decide) a_895 rfl rfl (by decide +kernel) rfl rfl (Nat.le_of_ble_eq_true rfl) rfl dX2_init_30 ?_
  exact q_ret (B := fun k => match k with | 0 => h0 | 1 => q1 | 2 => q2 | 3 => q3 | _ => 0) (F := F_X2 K.G) hO hr hg rfl rfl (Nat.le_of_ble_eq_true rfl) (Nat.le_of_ble_eq_true rfl) dX2_init_33
theorem cal_X2_init : CalI yX2_init cX2_init 1 := ⟨a_1075, a_1076, a_93, rfl, by decide, by decide, by decide +kernel⟩
set_option maxRecDepth 100000 in
set_option maxHeartbeats 4000000 in
theorem c_X4_init {l : Launch} (G : Gh) : Cob l G yX4_init cX4_init 1 2 40 12 134 (.inr (4, [.int 0, .int 0, .int 0, .int 0, .int 0, .int 0, .int 0, .int 0, .null, .null, .null, .null, .null, .null, .null, .null, .null]) : va_E) (F_X4 G) := by
  refine Cob.of (plainFor_of_name (by decide)) rfl rfl (Nat.le_refl _) ?_
  intro K h0 hl hG hO hr hin hg
  subst hl; subst hG
  refine q_aload (i := 0) hO rfl rfl dX4_init_0 ?_
  refine q_obj hO a_1077 a_1059 a_1060 dX4_init_1 (by decide) (by decide) ?_
  refine q_aload (i := 0) hO rfl rfl dX4_init_4 ?_
  refine q_iconst hO ci_0 dX4_init_5 ?_
  refine q_put (ws' := [(h0, .inr (4, [.int (0 : Int32), .int 0, .int 0, .int 0, .int 0, .int 0, .int 0, .int 0, .null, .null, .null, .null, .null, .null, .null, .null, .null]))]) (ty := .boolean) (q0 := 0) (ci := 4) 0 hO inX4 tyX4 tyX4_ok nmX4 rfl rfl (by decide) a_914 rfl (by decide +kernel) rfl rfl (Nat.le_of_ble_eq_true rfl) rfl dX4_init_6 ?_
  refine q_aload (i := 0) hO rfl rfl dX4_init_9 ?_
  refine q_iconst hO ci_0 dX4_init_10 ?_
  refine q_put (ws' := [(h0, .inr (4, [.int (0 : Int32), .int (0 : Int32), .int 0, .int 0, .int 0, .int 0, .int 0, .int 0, .null, .null, .null, .null, .null, .null, .null, .null, .null]))]) (ty := .int) (q0 := 0) (ci := 4) 1 hO inX4 tyX4 tyX4_ok nmX4 rfl rfl (by decide) a_915 rfl (by decide +kernel) rfl rfl (Nat.le_of_ble_eq_true rfl) rfl dX4_init_11 ?_
  refine q_aload (i := 0) hO rfl rfl dX4_init_14 ?_
  refine q_iconst hO ci_0 dX4_init_15 ?_
  refine q_put (ws' := [(h0, .inr (4, [.int (0 : Int32), .int (0 : Int32), .int (0 : Int32), .int 0, .int 0, .int 0, .int 0, .int 0, .null, .null, .null, .null, .null, .null, .null, .null, .null]))]) (ty := .int) (q0 := 0) (ci := 4) 2 hO inX4 tyX4 tyX4_ok nmX4 rfl rfl (by decide) a_916 rfl (by decide +kernel) rfl rfl (Nat.le_of_ble_eq_true rfl) rfl dX4_init_16 ?_
  refine q_aload (i := 0) hO rfl rfl dX4_init_19 ?_
  refine q_iconst hO ci_0 dX4_init_20 ?_
  refine q_put (ws' := [(h0, .inr (4, [.int (0 : Int32), .int (0 : Int32), .int (0 : Int32), .int (0 : Int32), .int 0, .int 0, .int 0, .int 0, .null, .null, .null, .null, .null, .null, .null, .null, .null]))]) (ty := .int) (q0 := 0) (ci := 4) 3 hO inX4 tyX4 tyX4_ok nmX4 rfl rfl (by decide) a_917 rfl (by decide +kernel) rfl rfl (Nat.le_of_ble_eq_true rfl) rfl dX4_init_21 ?_
  refine q_aload (i := 0) hO rfl rfl dX4_init_24 ?_
  refine q_iconst hO ci_0 dX4_init_25 ?_
  refine q_put (ws' := [(h0, .inr (4, [.int (0 : Int32), .int (0 : Int32), .int (0 : Int32), .int (0 : Int32), .int (0 : Int32), .int 0, .int 0, .int 0, .null, .null, .null, .null, .null, .null, .null, .null, .null]))]) (ty := .int) (q0 := 0) (ci := 4) 4 hO inX4 tyX4 tyX4_ok nmX4 rfl rfl (by decide) a_918 rfl (by decide +kernel) rfl rfl (Nat.le_of_ble_eq_true rfl) rfl dX4_init_26 ?_
  refine q_aload (i := 0) hO rfl rfl dX4_init_29 ?_
  refine q_iconst hO ci_0 dX4_init_30 ?_
  refine q_put (ws' := [(h0, .inr (4, [.int (0 : Int32), .int (0 : Int32), .int (0 : Int32), .int (0 : Int32), .int (0 : Int32), .int (0 : Int32), .int 0, .int 0, .null, .null, .null, .null, .null, .null, .null, .null, .null]))]) (ty := .int) (q0 := 0) (ci := 4) 5 hO inX4 tyX4 tyX4_ok nmX4 rfl rfl (by decide) a_919 rfl (by decide +kernel) rfl rfl (Nat.le_of_ble_eq_true rfl) rfl dX4_init_31 ?_
  refine q_aload (i := 0) hO rfl rfl dX4_init_34 ?_
  refine q_iconst hO ci_0 dX4_init_35 ?_
  refine q_put (ws' := [(h0, .inr (4, [.int (0 : Int32), .int (0 : Int32), .int (0 : Int32), .int (0 : Int32), .int (0 : Int32), .int (0 : Int32), .int (0 : Int32), .int 0, .null, .null, .null, .null, .null, .null, .null, .null, .null]))]) (ty := .int) (q0 := 0) (ci := 4) 6 hO inX4 tyX4 tyX4_ok nmX4 rfl rfl (by decide) a_920 rfl (by decide +kernel) rfl rfl (Nat.le_of_ble_eq_true rfl) rfl dX4_init_36 ?_
  refine q_aload (i := 0) hO rfl rfl dX4_init_39 ?_
  refine q_iconst hO ci_0 dX4_init_40 ?_
  refine q_put (ws' := [(h0, .inr (4, [.int (0 : Int32), .int (0 : Int32), .int (0 : Int32), .int (0 : Int32), .int (0 : Int32), .int (0 : Int32), .int (0 : Int32), .int (0 : Int32), .null, .null, .null, .null, .null, .null, .null, .null, .null]))]) (ty := .int) (q0 := 0) (ci := 4) 7 hO inX4 tyX4 tyX4_ok nmX4 rfl rfl (by decide) a_921 rfl (by decide +kernel) rfl rfl (Nat.le_of_ble_eq_true rfl) rfl dX4_init_41 ?_
  refine q_aload (i := 0) hO rfl rfl dX4_init_44 ?_
  refine q_iconst hO ci_5 dX4_init_45 ?_
  refine q_newa (atype := .int) (a0 := (5, .inl (fun _ => 0))) (N := 5) (t0 := 0) (cA := K.G.T.1) (ty := .int) hO hg a_1062 rfl rfl (fun h => h) (fun _ h => h) (fun _ => rfl) (by decide) rfl (by decide) (Nat.le_of_ble_eq_true rfl) (Nat.le_of_ble_eq_true rfl) dX4_init_46 (fun q1 => ?_)
  refine q_putF (ws' := [(h0, .inr (4, [.int (0 : Int32), .int (0 : Int32), .int (0 : Int32), .int (0 : Int32), .int (0 : Int32), .int (0 : Int32), .int (0 : Int32), .int (0 : Int32), .ref q1, .null, .null, .null, .null, .null, .null, .null, .null])), (q1, .inl (K.G.T.1, 5, .inl (fun _ => 0)))]) (ty := (.array .int)) (q0 := 0) (ci := 4) 8 hO hin inX4 tyX4 tyX4_ok nmX4 rfl rfl (by decide) a_905 rfl rfl (by decide +kernel) rfl rfl (Nat.le_of_ble_eq_true rfl) rfl dX4_init_48 ?_
  refine q_aload (i := 0) hO rfl rfl dX4_init_51 ?_
  refine q_iconst hO ci_5 dX4_init_52 ?_
  refine q_newa (atype := .int) (a0 := (5, .inl (fun _ => 0))) (N := 5) (t0 := 0) (cA := K.G.T.1) (ty := .int) hO hg a_1062 rfl rfl (fun h => h) (fun _ h => h) (fun _ => rfl) (by decide) rfl (by decide) (Nat.le_of_ble_eq_true rfl) (Nat.le_of_ble_eq_true rfl) dX4_init_53 (fun q2 => ?_)
  refine q_putF (ws' := [(h0, .inr (4, [.int (0 : Int32), .int (0 : Int32), .int (0 : Int32), .int (0 : Int32), .int (0 : Int32), .int (0 : Int32), .int (0 : Int32), .int (0 : Int32), .ref q1, .ref q2, .null, .null, .null, .null, .null, .null, .null])), (q1, .inl (K.G.T.1, 5, .inl (fun _ => 0))), (q2, .inl (K.G.T.1, 5, .inl (fun _ => 0)))]) (ty := (.array .int)) (q0 := 0) (ci := 4) 9 hO hin inX4 tyX4 tyX4_ok nmX4 rfl rfl (by decide) a_906 rfl rfl (by decide +kernel) rfl rfl (Nat.le_of_ble_eq_true rfl) rfl dX4_init_55 ?_
  refine q_aload (i := 0) hO rfl rfl dX4_init_58 ?_
  refine q_iconst hO ci_5 dX4_init_59 ?_
  refine q_newa (atype := .int) (a0 := (5, .inl (fun _ => 0))) (N := 5) (t0 := 0) (cA := K.G.T.1) (ty := .int) hO hg a_1062 rfl rfl (fun h => h) (fun _ h => h) (fun _ => rfl) (by decide) rfl (by decide) (Nat.le_of_ble_eq_true rfl) (Nat.le_of_ble_eq_true rfl) dX4_init_60 (fun q3 => ?_)
  refine q_putF (ws' := [(h0, .inr (4, [.int (0 : Int32), .int (0 : Int32), .int (0 : Int32), .int (0 : Int32), .int (0 : Int32), .int (0 : Int32), .int (0 : Int32), .int (0 : Int32), .ref q1, .ref q2, .ref q3, .null, .null, .null, .null, .null, .null])), (q1, .inl (K.G.T.1, 5, .inl (fun _ => 0))), (q2, .inl (K.G.T.1, 5, .inl (fun _ => 0))), (q3, .inl (K.G.T.1, 5, .inl (fun _ => 0)))]) (ty := (.array .int)) (q0 := 0) (ci := 4) 10 hO hin inX4 tyX4 tyX4_ok nmX4 rfl rfl (by decide) a_907 rfl rfl (by decide +kernel) rfl rfl (Nat.le_of_ble_eq_true rfl) rfl dX4_init_62 ?_
  refine q_aload (i := 0) hO rfl rfl dX4_init_65 ?_
  refine q_iconst hO ci_5 dX4_init_66 ?_
  refine q_newa (atype := .int) (a0 := (5, .inl (fun _ => 0))) (N := 5) (t0 := 0) (cA := K.G.T.1) (ty := .int) hO hg a_1062 rfl rfl (fun h => h) (fun _ h => h) (fun _ => rfl) (by decide) rfl (by decide) (Nat.le_of_ble_eq_true rfl) (Nat.le_of_ble_eq_true rfl) dX4_init_67 (fun q4 => ?_)
  refine q_putF (ws' := [(h0, .inr (4, [.int (0 : Int32), .int (0 : Int32), .int (0 : Int32), .int (0 : Int32), .int (0 : Int32), .int (0 : Int32), .int (0 : Int32), .int (0 : Int32), .ref q1, .ref q2, .ref q3, .ref q4, .null, .null, .null, .null, .null])), (q1, .inl (K.G.T.1, 5, .inl (fun _ => 0))), (q2, .inl (K.G.T.1, 5, .inl (fun _ => 0))), (q3, .inl (K.G.T.1, 5, .inl (fun _ => 0))), (q4, .inl (K.G.T.1, 5, .inl (fun _ => 0)))]) (ty := (.array .int)) (q0 := 0) (ci := 4) 11 hO hin inX4 tyX4 tyX4_ok nmX4 rfl rfl (by decide) a_908 rfl rfl (by decide +kernel) rfl rfl (Nat.le_of_ble_eq_true rfl) rfl dX4_init_69 ?_
  refine q_aload (i := 0) hO rfl rfl dX4_init_72 ?_
  refine q_iconst hO ci_5 dX4_init_73 ?_
  refine q_newa (atype := .int) (a0 := (5, .inl (fun _ => 0))) (N := 5) (t0 := 0) (cA := K.G.T.1) (ty := .int) hO hg a_1062 rfl rfl (fun h => h) (fun _ h => h) (fun _ => rfl) (by decide) rfl (by decide) (Nat.le_of_ble_eq_true rfl) (Nat.le_of_ble_eq_true rfl) dX4_init_74 (fun q5 => ?_)
  refine q_putF (ws' := [(h0, .inr (4, [.int (0 : Int32), .int (0 : Int32), .int (0 : Int32), .int (0 : Int32), .int (0 : Int32), .int (0 : Int32), .int (0 : Int32), .int (0 : Int32), .ref q1, .ref q2, .ref q3, .ref q4, .ref q5, .null, .null, .null, .null])), (q1, .inl (K.G.T.1, 5, .inl (fun _ => 0))), (q2, .inl (K.G.T.1, 5, .inl (fun _ => 0))), (q3, .inl (K.G.T.1, 5, .inl (fun _ => 0))), (q4, .inl (K.G.T.1, 5, .inl (fun _ => 0))), (q5, .inl (K.G.T.1, 5, .inl (fun _ => 0)))]) (ty := (.array .int)) (q0 := 0) (ci := 4) 12 hO hin inX4 tyX4 tyX4_ok nmX4 rfl rfl (by decide) a_909 rfl rfl (by decide +kernel) rfl rfl (Nat.le_of_ble_eq_true rfl) rfl dX4_init_76 ?_
  refine q_aload (i := 0) hO rfl rfl dX4_init_79 ?_
  refine q_iconst hO ci_5 dX4_init_80 ?_
  refine q_newa (atype := .int) (a0 := (5, .inl (fun _ => 0))) (N := 5) (t0 := 0) (cA := K.G.T.1) (ty := .int) hO hg a_1062 rfl rfl (fun h => h) (fun _ h => h) (fun _ => rfl) (by decide) rfl (by decide) (Nat.le_of_ble_eq_true rfl) (Nat.le_of_ble_eq_true rfl) dX4_init_81 (fun q6 => ?_)
  refine q_putF (ws' := [(h0, .inr (4, [.int (0 : Int32), .int (0 : Int32), .int (0 : Int32), .int (0 : Int32), .int (0 : Int32), .int (0 : Int32), .int (0 : Int32), .int (0 : Int32), .ref q1, .ref q2, .ref q3, .ref q4, .ref q5, .ref q6, .null, .null, .null])), (q1, .inl (K.G.T.1, 5, .inl (fun _ => 0))), (q2, .inl (K.G.T.1, 5, .inl (fun _ => 0))), (q3, .inl (K.G.T.1, 5, .inl (fun _ => 0))), (q4, .inl (K.G.T.1, 5, .inl (fun _ => 0))), (q5, .inl (K.G.T.1, 5, .inl (fun _ => 0))), (q6, .inl (K.G.T.1, 5, .inl (fun _ => 0)))]) (ty := (.array .int)) (q0 := 0) (ci := 4) 13 hO hin inX4 tyX4 tyX4_ok nmX4 rfl rfl (by decide) a_910 rfl rfl (by decide +kernel) rfl rfl (Nat.le_of_ble_eq_true rfl) rfl dX4_init_83 ?_
  refine q_aload (i := 0) hO rfl rfl dX4_init_86 ?_
  refine q_iconst hO ci_5 dX4_init_87 ?_
  refine q_newa (atype := .int) (a0 := (5, .inl (fun _ => 0))) (N := 5) (t0 := 0) (cA := K.G.T.1) (ty := .int) hO hg a_1062 rfl rfl (fun h => h) (fun _ h => h) (fun _ => rfl) (by decide) rfl (by decide) (Nat.le_of_ble_eq_true rfl) (Nat.le_of_ble_eq_true rfl) dX4_init_88 (fun q7 => ?_)
  refine q_putF (ws' := [(h0, .inr (4, [.int (0 : Int32), .int (0 : Int32), .int (0 : Int32), .int (0 : Int32), .int (0 : Int32), .int (0 : Int32), .int (0 : Int32), .int (0 : Int32), .ref q1, .ref q2, .ref q3, .ref q4, .ref q5, .ref q6, .ref q7, .null, .null])), (q1, .inl (K.G.T.1, 5, .inl (fun _ => 0))), (q2, .inl (K.G.T.1, 5, .inl (fun _ => 0))), (q3, .inl (K.G.T.1, 5, .inl (fun _ => 0))), (q4, .inl (K.G.T.1, 5, .inl (fun _ => 0))), (q5, .inl (K.G.T.1, 5, .inl (fun _ => 0))), (q6, .inl (K.G.T.1, 5, .inl (fun _ => 0))), (q7, .inl (K.G.T.1, 5, .inl (fun _ => 0)))]) (ty := (.array .int)) (q0 := 0) (ci := 4) 14 hO hin inX4 tyX4 tyX4_ok nmX4 rfl rfl (by decide) a_911 rfl rfl (by decide +kernel) rfl rfl (Nat.le_of_ble_eq_true rfl) rfl dX4_init_90 ?_
  refine q_aload (i := 0) hO rfl rfl dX4_init_93 ?_
  refine q_iconst hO ci_5 dX4_init_94 ?_
  refine q_newa (atype := .int) (a0 := (5, .inl (fun _ => 0))) (N := 5) (t0 := 0) (cA := K.G.T.1) (ty := .int) hO hg a_1062 rfl rfl (fun h => h) (fun _ h => h) (fun _ => rfl) (by decide) rfl (by decide) (Nat.le_of_ble_eq_true rfl) (Nat.le_of_ble_eq_true rfl) dX4_init_95 (fun q8 => ?_)
  refine q_putF (ws' := [(h0, .inr (4, [.int (0 : Int32), .int (0 : Int32), .int (0 : Int32), .int (0 : Int32), .int (0 : Int32), .int (0 : Int32), .int (0 : Int32), .int (0 : Int32), .ref q1, .ref q2, .ref q3, .ref q4, .ref q5, .ref q6, .ref q7, .ref q8, .null])), (q1, .inl (K.G.T.1, 5, .inl (fun _ => 0))), (q2, .inl (K.G.T.1, 5, .inl (fun _ => 0))), (q3, .inl (K.G.T.1, 5, .inl (fun _ => 0))), (q4, .inl (K.G.T.1, 5, .inl (fun _ => 0))), (q5, .inl (K.G.T.1, 5, .inl (fun _ => 0))), (q6, .inl (K.G.T.1, 5, .inl (fun _ => 0))), (q7, .inl (K.G.T.1, 5, .inl (fun _ => 0))), (q8, .inl (K.G.T.1, 5, .inl (fun _ => 0)))]) (ty := (.array .int)) (q0 := 0) (ci := 4) 15 hO hin inX4 tyX4 tyX4_ok nmX4 rfl rfl (by decide) a_912 rfl rfl (by decide +kernel) rfl rfl (Nat.le_of_ble_eq_true rfl) rfl dX4_init_97 ?_
  refine q_aload (i := 0) hO rfl rfl dX4_init_100 ?_
  refine q_new (fs := [.int 0, .null, .null, .null]) (ci := 2) (N := 4) tyX2 hO hg inX2 tyX2_ok a_1078 a_1079 a_93 rfl (by decide) (Nat.le_of_ble_eq_true rfl) (Nat.le_of_ble_eq_true rfl) dX4_init_101 (fun q9 hq9 => ?_)
  refine q_dup hO rfl dX4_init_104 ?_
  refine q_initN hO hg hq9 (c_X2_init K.G) cal_X2_init a_1080 rfl rfl rfl (Nat.le_of_ble_eq_true rfl) (Nat.le_of_ble_eq_true rfl) dX4_init_105 ?_
  intro B9 hB9
  subst hB9
  refine q_putF (ws' := [(h0, .inr (4, [.int (0 : Int32), .int (0 : Int32), .int (0 : Int32), .int (0 : Int32), .int (0 : Int32), .int (0 : Int32), .int (0 : Int32), .int (0 : Int32), .ref q1, .ref q2, .ref q3, .ref q4, .ref q5, .ref q6, .ref q7, .ref q8, .ref (B9 0)])), (q1, .inl (K.G.T.1, 5, .inl (fun _ => 0))), (q2, .inl (K.G.T.1, 5, .inl (fun _ => 0))), (q3, .inl (K.G.T.1, 5, .inl (fun _ => 0))), (q4, .inl (K.G.T.1, 5, .inl (fun _ => 0))), (q5, .inl (K.G.T.1, 5, .inl (fun _ => 0))), (q6, .inl (K.G.T.1, 5, .inl (fun _ => 0))), (q7, .inl (K.G.T.1, 5, .inl (fun _ => 0))), (q8, .inl (K.G.T.1, 5, .inl (fun _ => 0)))] ++ F_X2 K.G B9) (ty := (.object "OrderSplit$Ledger")) (q0 := 0) (ci := 4) 16 hO hin inX4 tyX4 tyX4_ok nmX4 rfl rfl (by decide) a_913 rfl rfl (by decide +kernel) rfl rfl (Nat.le_of_ble_eq_true rfl) rfl dX4_init_108 ?_
  exact q_ret (B := fun k => match k with | 0 => h0 | 1 => q1 | 2 => q2 | 3 => q3 | 4 => q4 | 5 => q5 | 6 => q6 | 7 => q7 | 8 => q8 | k + 9 => B9 k) (F := F_X4 K.G) hO hr hg rfl rfl (Nat.le_of_ble_eq_true rfl) (Nat.le_of_ble_eq_true rfl) dX4_init_111
theorem cal_X4_init : CalI yX4_init cX4_init 1 := ⟨a_1081, a_1082, a_149, rfl, by decide, by decide, by decide +kernel⟩
set_option maxRecDepth 100000 in
set_option maxHeartbeats 4000000 in
theorem c_X6_init {l : Launch} (G : Gh) : Cob l G yX6_init cX6_init 1 3 60 101 3408 (.inr (6, [.null, .null, .null, .null, .null, .null, .null, .null, .null, .null, .int 0, .int 0, .int 0, .int 0]) : va_E) (F_X6 G) := by
  refine Cob.of (plainFor_of_name (by decide)) rfl rfl (Nat.le_refl _) ?_
  intro K h0 hl hG hO hr hin hg
  subst hl; subst hG
  refine q_aload (i := 0) hO rfl rfl dX6_init_0 ?_
  refine q_obj hO a_1083 a_1059 a_1060 dX6_init_1 (by decide) (by decide) ?_
  refine q_aload (i := 0) hO rfl rfl dX6_init_4 ?_
  refine q_new (fs := [.int 0, .int 0, .int 0, .null, .null, .int 0, .int 0, .int 0, .int 0, .int 0, .int 0]) (ci := 5) (N := 11) tyX5 hO hg inX5 tyX5_ok a_1084 a_1085 a_217 rfl (by decide) (Nat.le_of_ble_eq_true rfl) (Nat.le_of_ble_eq_true rfl) dX6_init_5 (fun q1 hq1 => ?_)
  refine q_dup hO rfl dX6_init_8 ?_
  refine q_initN hO hg hq1 (c_X5_init K.G) cal_X5_init a_1086 rfl rfl rfl (Nat.le_of_ble_eq_true rfl) (Nat.le_of_ble_eq_true rfl) dX6_init_9 ?_
  intro B1 hB1
  subst hB1
  refine q_putF (ws' := (h0, .inr (6, [.ref (B1 0), .null, .null, .null, .null, .null, .null, .null, .null, .null, .int 0, .int 0, .int 0, .int 0])) :: (([] ++ F_X5 K.G B1))) (ty := (.object "OrderSplit$Tape")) (q0 := 0) (ci := 6) 0 hO hin inX6 tyX6 tyX6_ok nmX6 rfl rfl (by decide) a_957 rfl rfl (by decide +kernel) rfl rfl (Nat.le_of_ble_eq_true rfl) rfl dX6_init_12 ?_
  refine q_aload (i := 0) hO rfl rfl dX6_init_15 ?_
  refine q_new (fs := [.int 0, .int 0, .null, .null, .null, .null, .null]) (ci := 1) (N := 7) tyX1 hO hg inX1 tyX1_ok a_1087 a_1088 a_48 rfl (by decide) (Nat.le_of_ble_eq_true rfl) (Nat.le_of_ble_eq_true rfl) dX6_init_16 (fun q2 hq2 => ?_)
  refine q_dup hO rfl dX6_init_19 ?_
  refine q_initN hO hg hq2 (c_X1_init K.G) cal_X1_init a_1089 rfl rfl rfl (Nat.le_of_ble_eq_true rfl) (Nat.le_of_ble_eq_true rfl) dX6_init_20 ?_
  intro B2 hB2
  subst hB2
  refine q_putF (ws' := (h0, .inr (6, [.ref (B1 0), .ref (B2 0), .null, .null, .null, .null, .null, .null, .null, .null, .int 0, .int 0, .int 0, .int 0])) :: ((([] ++ F_X5 K.G B1) ++ F_X1 K.G B2))) (ty := (.object "OrderSplit$Chooser")) (q0 := 0) (ci := 6) 1 hO hin inX6 tyX6 tyX6_ok nmX6 rfl rfl (by decide) a_980 rfl rfl (by decide +kernel) rfl rfl (Nat.le_of_ble_eq_true rfl) rfl dX6_init_23 ?_
  refine q_aload (i := 0) hO rfl rfl dX6_init_26 ?_
  refine q_new (fs := [.int 0, .int 0]) (ci := 0) (N := 2) tyX0 hO hg inX0 tyX0_ok a_1090 a_1091 a_10 rfl (by decide) (Nat.le_of_ble_eq_true rfl) (Nat.le_of_ble_eq_true rfl) dX6_init_27 (fun q3 hq3 => ?_)
  refine q_dup hO rfl dX6_init_30 ?_
  refine q_initN hO hg hq3 (c_X0_init K.G) cal_X0_init a_1092 rfl rfl rfl (Nat.le_of_ble_eq_true rfl) (Nat.le_of_ble_eq_true rfl) dX6_init_31 ?_
  intro B3 hB3
  subst hB3
  refine q_putF (ws' := (h0, .inr (6, [.ref (B1 0), .ref (B2 0), .ref (B3 0), .null, .null, .null, .null, .null, .null, .null, .int 0, .int 0, .int 0, .int 0])) :: (((([] ++ F_X5 K.G B1) ++ F_X1 K.G B2) ++ F_X0 K.G B3))) (ty := (.object "OrderSplit$Bounds")) (q0 := 0) (ci := 6) 2 hO hin inX6 tyX6 tyX6_ok nmX6 rfl rfl (by decide) a_984 rfl rfl (by decide +kernel) rfl rfl (Nat.le_of_ble_eq_true rfl) rfl dX6_init_34 ?_
  refine q_aload (i := 0) hO rfl rfl dX6_init_37 ?_
  refine q_new (fs := [.int 0, .int 0, .int 0, .int 0, .int 0, .null, .null, .null, .null, .null, .null, .null, .null, .null, .null, .null, .null]) (ci := 3) (N := 17) tyX3 hO hg inX3 tyX3_ok a_1093 a_1094 a_6 rfl (by decide) (Nat.le_of_ble_eq_true rfl) (Nat.le_of_ble_eq_true rfl) dX6_init_38 (fun q4 hq4 => ?_)
  refine q_dup hO rfl dX6_init_41 ?_
  refine q_initN hO hg hq4 (c_X3_init K.G) cal_X3_init a_1095 rfl rfl rfl (Nat.le_of_ble_eq_true rfl) (Nat.le_of_ble_eq_true rfl) dX6_init_42 ?_
  intro B4 hB4
  subst hB4
  refine q_put (ws' := (h0, .inr (6, [.ref (B1 0), .ref (B2 0), .ref (B3 0), .ref (B4 0), .null, .null, .null, .null, .null, .null, .int 0, .int 0, .int 0, .int 0])) :: ((((([] ++ F_X5 K.G B1) ++ F_X1 K.G B2) ++ F_X0 K.G B3) ++ F_X3 K.G B4))) (ty := (.object "OrderSplit$Market")) (q0 := 0) (ci := 6) 3 hO inX6 tyX6 tyX6_ok nmX6 rfl rfl (by decide) a_959 rfl (by decide +kernel) rfl rfl (Nat.le_of_ble_eq_true rfl) rfl dX6_init_45 ?_
  refine q_aload (i := 0) hO rfl rfl dX6_init_48 ?_
  refine q_new (fs := [.int 0, .int 0, .int 0, .int 0, .int 0, .null, .null, .null, .null, .null, .null, .null, .null, .null, .null, .null, .null]) (ci := 3) (N := 17) tyX3 hO hg inX3 tyX3_ok a_1093 a_1094 a_6 rfl (by decide) (Nat.le_of_ble_eq_true rfl) (Nat.le_of_ble_eq_true rfl) dX6_init_49 (fun q5 hq5 => ?_)
  refine q_dup hO rfl dX6_init_52 ?_
  refine q_initN hO hg hq5 (c_X3_init K.G) cal_X3_init a_1095 rfl rfl rfl (Nat.le_of_ble_eq_true rfl) (Nat.le_of_ble_eq_true rfl) dX6_init_53 ?_
  intro B5 hB5
  subst hB5
  refine q_put (ws' := (h0, .inr (6, [.ref (B1 0), .ref (B2 0), .ref (B3 0), .ref (B4 0), .ref (B5 0), .null, .null, .null, .null, .null, .int 0, .int 0, .int 0, .int 0])) :: (((((([] ++ F_X5 K.G B1) ++ F_X1 K.G B2) ++ F_X0 K.G B3) ++ F_X3 K.G B4) ++ F_X3 K.G B5))) (ty := (.object "OrderSplit$Market")) (q0 := 0) (ci := 6) 4 hO inX6 tyX6 tyX6_ok nmX6 rfl rfl (by decide) a_961 rfl (by decide +kernel) rfl rfl (Nat.le_of_ble_eq_true rfl) rfl dX6_init_56 ?_
  refine q_aload (i := 0) hO rfl rfl dX6_init_59 ?_
  refine q_new (fs := [.int 0, .int 0, .int 0, .int 0, .int 0, .null, .null, .null, .null, .null, .null, .null, .null, .null, .null, .null, .null]) (ci := 3) (N := 17) tyX3 hO hg inX3 tyX3_ok a_1093 a_1094 a_6 rfl (by decide) (Nat.le_of_ble_eq_true rfl) (Nat.le_of_ble_eq_true rfl) dX6_init_60 (fun q6 hq6 => ?_)
  refine q_dup hO rfl dX6_init_63 ?_
  refine q_initN hO hg hq6 (c_X3_init K.G) cal_X3_init a_1095 rfl rfl rfl (Nat.le_of_ble_eq_true rfl) (Nat.le_of_ble_eq_true rfl) dX6_init_64 ?_
  intro B6 hB6
  subst hB6
  refine q_putF (ws' := (h0, .inr (6, [.ref (B1 0), .ref (B2 0), .ref (B3 0), .ref (B4 0), .ref (B5 0), .ref (B6 0), .null, .null, .null, .null, .int 0, .int 0, .int 0, .int 0])) :: ((((((([] ++ F_X5 K.G B1) ++ F_X1 K.G B2) ++ F_X0 K.G B3) ++ F_X3 K.G B4) ++ F_X3 K.G B5) ++ F_X3 K.G B6))) (ty := (.object "OrderSplit$Market")) (q0 := 0) (ci := 6) 5 hO hin inX6 tyX6 tyX6_ok nmX6 rfl rfl (by decide) a_999 rfl rfl (by decide +kernel) rfl rfl (Nat.le_of_ble_eq_true rfl) rfl dX6_init_67 ?_
  refine q_aload (i := 0) hO rfl rfl dX6_init_70 ?_
  refine q_new (fs := [.int 0, .int 0, .int 0, .int 0, .int 0, .null, .null, .null, .null, .null, .null, .null, .null, .null, .null, .null, .null]) (ci := 3) (N := 17) tyX3 hO hg inX3 tyX3_ok a_1093 a_1094 a_6 rfl (by decide) (Nat.le_of_ble_eq_true rfl) (Nat.le_of_ble_eq_true rfl) dX6_init_71 (fun q7 hq7 => ?_)
  refine q_dup hO rfl dX6_init_74 ?_
  refine q_initN hO hg hq7 (c_X3_init K.G) cal_X3_init a_1095 rfl rfl rfl (Nat.le_of_ble_eq_true rfl) (Nat.le_of_ble_eq_true rfl) dX6_init_75 ?_
  intro B7 hB7
  subst hB7
  refine q_putF (ws' := (h0, .inr (6, [.ref (B1 0), .ref (B2 0), .ref (B3 0), .ref (B4 0), .ref (B5 0), .ref (B6 0), .ref (B7 0), .null, .null, .null, .int 0, .int 0, .int 0, .int 0])) :: (((((((([] ++ F_X5 K.G B1) ++ F_X1 K.G B2) ++ F_X0 K.G B3) ++ F_X3 K.G B4) ++ F_X3 K.G B5) ++ F_X3 K.G B6) ++ F_X3 K.G B7))) (ty := (.object "OrderSplit$Market")) (q0 := 0) (ci := 6) 6 hO hin inX6 tyX6 tyX6_ok nmX6 rfl rfl (by decide) a_994 rfl rfl (by decide +kernel) rfl rfl (Nat.le_of_ble_eq_true rfl) rfl dX6_init_78 ?_
  refine q_aload (i := 0) hO rfl rfl dX6_init_81 ?_
  refine q_new (fs := [.int 0, .int 0, .int 0, .int 0, .int 0, .int 0, .int 0, .int 0, .null, .null, .null, .null, .null, .null, .null, .null, .null]) (ci := 4) (N := 17) tyX4 hO hg inX4 tyX4_ok a_1096 a_1097 a_149 rfl (by decide) (Nat.le_of_ble_eq_true rfl) (Nat.le_of_ble_eq_true rfl) dX6_init_82 (fun q8 hq8 => ?_)
  refine q_dup hO rfl dX6_init_85 ?_
  refine q_initN hO hg hq8 (c_X4_init K.G) cal_X4_init a_1098 rfl rfl rfl (Nat.le_of_ble_eq_true rfl) (Nat.le_of_ble_eq_true rfl) dX6_init_86 ?_
  intro B8 hB8
  subst hB8
  refine q_putF (ws' := (h0, .inr (6, [.ref (B1 0), .ref (B2 0), .ref (B3 0), .ref (B4 0), .ref (B5 0), .ref (B6 0), .ref (B7 0), .ref (B8 0), .null, .null, .int 0, .int 0, .int 0, .int 0])) :: ((((((((([] ++ F_X5 K.G B1) ++ F_X1 K.G B2) ++ F_X0 K.G B3) ++ F_X3 K.G B4) ++ F_X3 K.G B5) ++ F_X3 K.G B6) ++ F_X3 K.G B7) ++ F_X4 K.G B8))) (ty := (.object "OrderSplit$Run")) (q0 := 0) (ci := 6) 7 hO hin inX6 tyX6 tyX6_ok nmX6 rfl rfl (by decide) a_962 rfl rfl (by decide +kernel) rfl rfl (Nat.le_of_ble_eq_true rfl) rfl dX6_init_89 ?_
  refine q_aload (i := 0) hO rfl rfl dX6_init_92 ?_
  refine q_new (fs := [.int 0, .int 0, .int 0, .int 0, .int 0, .int 0, .int 0, .int 0, .null, .null, .null, .null, .null, .null, .null, .null, .null]) (ci := 4) (N := 17) tyX4 hO hg inX4 tyX4_ok a_1096 a_1097 a_149 rfl (by decide) (Nat.le_of_ble_eq_true rfl) (Nat.le_of_ble_eq_true rfl) dX6_init_93 (fun q9 hq9 => ?_)
  refine q_dup hO rfl dX6_init_96 ?_
  refine q_initN hO hg hq9 (c_X4_init K.G) cal_X4_init a_1098 rfl rfl rfl (Nat.le_of_ble_eq_true rfl) (Nat.le_of_ble_eq_true rfl) dX6_init_97 ?_
  intro B9 hB9
  subst hB9
  refine q_putF (ws' := (h0, .inr (6, [.ref (B1 0), .ref (B2 0), .ref (B3 0), .ref (B4 0), .ref (B5 0), .ref (B6 0), .ref (B7 0), .ref (B8 0), .ref (B9 0), .null, .int 0, .int 0, .int 0, .int 0])) :: (((((((((([] ++ F_X5 K.G B1) ++ F_X1 K.G B2) ++ F_X0 K.G B3) ++ F_X3 K.G B4) ++ F_X3 K.G B5) ++ F_X3 K.G B6) ++ F_X3 K.G B7) ++ F_X4 K.G B8) ++ F_X4 K.G B9))) (ty := (.object "OrderSplit$Run")) (q0 := 0) (ci := 6) 8 hO hin inX6 tyX6 tyX6_ok nmX6 rfl rfl (by decide) a_1000 rfl rfl (by decide +kernel) rfl rfl (Nat.le_of_ble_eq_true rfl) rfl dX6_init_100 ?_
  refine q_aload (i := 0) hO rfl rfl dX6_init_103 ?_
  refine q_new (fs := [.int 0, .int 0, .int 0, .int 0, .int 0, .int 0, .int 0, .int 0, .null, .null, .null, .null, .null, .null, .null, .null, .null]) (ci := 4) (N := 17) tyX4 hO hg inX4 tyX4_ok a_1096 a_1097 a_149 rfl (by decide) (Nat.le_of_ble_eq_true rfl) (Nat.le_of_ble_eq_true rfl) dX6_init_104 (fun q10 hq10 => ?_)
  refine q_dup hO rfl dX6_init_107 ?_
  refine q_initN hO hg hq10 (c_X4_init K.G) cal_X4_init a_1098 rfl rfl rfl (Nat.le_of_ble_eq_true rfl) (Nat.le_of_ble_eq_true rfl) dX6_init_108 ?_
  intro B10 hB10
  subst hB10
  refine q_putF (ws' := (h0, .inr (6, [.ref (B1 0), .ref (B2 0), .ref (B3 0), .ref (B4 0), .ref (B5 0), .ref (B6 0), .ref (B7 0), .ref (B8 0), .ref (B9 0), .ref (B10 0), .int 0, .int 0, .int 0, .int 0])) :: ((((((((((([] ++ F_X5 K.G B1) ++ F_X1 K.G B2) ++ F_X0 K.G B3) ++ F_X3 K.G B4) ++ F_X3 K.G B5) ++ F_X3 K.G B6) ++ F_X3 K.G B7) ++ F_X4 K.G B8) ++ F_X4 K.G B9) ++ F_X4 K.G B10))) (ty := (.object "OrderSplit$Run")) (q0 := 0) (ci := 6) 9 hO hin inX6 tyX6 tyX6_ok nmX6 rfl rfl (by decide) a_995 rfl rfl (by decide +kernel) rfl rfl (Nat.le_of_ble_eq_true rfl) rfl dX6_init_111 ?_
  refine q_aload (i := 0) hO rfl rfl dX6_init_114 ?_
  refine q_iconst hO ci_0 dX6_init_115 ?_
  refine q_put (ws' := (h0, .inr (6, [.ref (B1 0), .ref (B2 0), .ref (B3 0), .ref (B4 0), .ref (B5 0), .ref (B6 0), .ref (B7 0), .ref (B8 0), .ref (B9 0), .ref (B10 0), .int (0 : Int32), .int 0, .int 0, .int 0])) :: ((((((((((([] ++ F_X5 K.G B1) ++ F_X1 K.G B2) ++ F_X0 K.G B3) ++ F_X3 K.G B4) ++ F_X3 K.G B5) ++ F_X3 K.G B6) ++ F_X3 K.G B7) ++ F_X4 K.G B8) ++ F_X4 K.G B9) ++ F_X4 K.G B10))) (ty := .boolean) (q0 := 0) (ci := 6) 10 hO inX6 tyX6 tyX6_ok nmX6 rfl rfl (by decide) a_967 rfl (by decide +kernel) rfl rfl (Nat.le_of_ble_eq_true rfl) rfl dX6_init_116 ?_
  refine q_aload (i := 0) hO rfl rfl dX6_init_119 ?_
  refine q_iconst hO ci_0 dX6_init_120 ?_
  refine q_put (ws' := (h0, .inr (6, [.ref (B1 0), .ref (B2 0), .ref (B3 0), .ref (B4 0), .ref (B5 0), .ref (B6 0), .ref (B7 0), .ref (B8 0), .ref (B9 0), .ref (B10 0), .int (0 : Int32), .int (0 : Int32), .int 0, .int 0])) :: ((((((((((([] ++ F_X5 K.G B1) ++ F_X1 K.G B2) ++ F_X0 K.G B3) ++ F_X3 K.G B4) ++ F_X3 K.G B5) ++ F_X3 K.G B6) ++ F_X3 K.G B7) ++ F_X4 K.G B8) ++ F_X4 K.G B9) ++ F_X4 K.G B10))) (ty := .boolean) (q0 := 0) (ci := 6) 11 hO inX6 tyX6 tyX6_ok nmX6 rfl rfl (by decide) a_1001 rfl (by decide +kernel) rfl rfl (Nat.le_of_ble_eq_true rfl) rfl dX6_init_121 ?_
  refine q_aload (i := 0) hO rfl rfl dX6_init_124 ?_
  refine q_iconst hO ci_0 dX6_init_125 ?_
  refine q_put (ws' := (h0, .inr (6, [.ref (B1 0), .ref (B2 0), .ref (B3 0), .ref (B4 0), .ref (B5 0), .ref (B6 0), .ref (B7 0), .ref (B8 0), .ref (B9 0), .ref (B10 0), .int (0 : Int32), .int (0 : Int32), .int (0 : Int32), .int 0])) :: ((((((((((([] ++ F_X5 K.G B1) ++ F_X1 K.G B2) ++ F_X0 K.G B3) ++ F_X3 K.G B4) ++ F_X3 K.G B5) ++ F_X3 K.G B6) ++ F_X3 K.G B7) ++ F_X4 K.G B8) ++ F_X4 K.G B9) ++ F_X4 K.G B10))) (ty := .int) (q0 := 0) (ci := 6) 12 hO inX6 tyX6 tyX6_ok nmX6 rfl rfl (by decide) a_965 rfl (by decide +kernel) rfl rfl (Nat.le_of_ble_eq_true rfl) rfl dX6_init_126 ?_
  refine q_aload (i := 0) hO rfl rfl dX6_init_129 ?_
  refine q_iconst hO ci_0 dX6_init_130 ?_
  refine q_put (ws' := (h0, .inr (6, [.ref (B1 0), .ref (B2 0), .ref (B3 0), .ref (B4 0), .ref (B5 0), .ref (B6 0), .ref (B7 0), .ref (B8 0), .ref (B9 0), .ref (B10 0), .int (0 : Int32), .int (0 : Int32), .int (0 : Int32), .int (0 : Int32)])) :: ((((((((((([] ++ F_X5 K.G B1) ++ F_X1 K.G B2) ++ F_X0 K.G B3) ++ F_X3 K.G B4) ++ F_X3 K.G B5) ++ F_X3 K.G B6) ++ F_X3 K.G B7) ++ F_X4 K.G B8) ++ F_X4 K.G B9) ++ F_X4 K.G B10))) (ty := .int) (q0 := 0) (ci := 6) 13 hO inX6 tyX6 tyX6_ok nmX6 rfl rfl (by decide) a_964 rfl (by decide +kernel) rfl rfl (Nat.le_of_ble_eq_true rfl) rfl dX6_init_131 ?_
  exact q_ret (B := fun k => if k = 0 then h0 else if k < 4 then B1 (k - 1) else if k < 10 then B2 (k - 4) else if k < 11 then B3 (k - 10) else if k < 24 then B4 (k - 11) else if k < 37 then B5 (k - 24) else if k < 50 then B6 (k - 37) else if k < 63 then B7 (k - 50) else if k < 76 then B8 (k - 63) else if k < 89 then B9 (k - 76) else if k < 102 then B10 (k - 89) else 0) (F := F_X6 K.G) hO hr hg rfl rfl (Nat.le_of_ble_eq_true rfl) (Nat.le_of_ble_eq_true rfl) dX6_init_134
theorem cal_X6_init : CalI yX6_init cX6_init 1 := ⟨a_1099, a_1100, a_2, rfl, by decide, by decide, by decide +kernel⟩
set_option maxRecDepth 100000 in
set_option maxHeartbeats 4000000 in
theorem c_X7_init {l : Launch} (G : Gh) : Cob l G yX7_init cX7_init 1 1 20 17 2524 (.inr (7, [.int 0, .int 0, .int 0, .null, .null, .null, .null, .null, .null, .null, .null, .null, .int 0, .int 0, .int 0, .int 0, .int 0, .int 0, .int 0, .int 0, .int 0, .int 0, .null, .null, .null, .int 0, .null, .int 0, .int 0, .int 0, .int 0, .int 0, .int 0, .int 0, .long 0, .null, .null, .int 0, .int 0, .int 0, .null, .null]) : va_E) (F_X7 G) := by
  refine Cob.of (plainFor_of_name (by decide)) rfl rfl (Nat.le_refl _) ?_
  intro K h0 hl hG hO hr hin hg
  subst hl; subst hG
  refine q_aload (i := 0) hO rfl rfl dX7_init_0 ?_
  refine q_obj hO a_1101 a_1059 a_1060 dX7_init_1 (by decide) (by decide) ?_
  refine q_aload (i := 0) hO rfl rfl dX7_init_4 ?_
  refine q_iconst hO ci_m1 dX7_init_5 ?_
  refine q_put (ws' := [(h0, .inr (7, [.int 0, .int 0, .int (-1 : Int32), .null, .null, .null, .null, .null, .null, .null, .null, .null, .int 0, .int 0, .int 0, .int 0, .int 0, .int 0, .int 0, .int 0, .int 0, .int 0, .null, .null, .null, .int 0, .null, .int 0, .int 0, .int 0, .int 0, .int 0, .int 0, .int 0, .long 0, .null, .null, .int 0, .int 0, .int 0, .null, .null]))]) (ty := .int) (q0 := 0) (ci := 7) 2 hO inX7 tyX7 tyX7_ok nmX7 rfl rfl (by decide) a_1027 rfl (by decide +kernel) rfl rfl (Nat.le_of_ble_eq_true rfl) rfl dX7_init_6 ?_
  refine q_aload (i := 0) hO rfl rfl dX7_init_9 ?_
  refine q_bipush hO bi_25 dX7_init_10 ?_
  refine q_newa (atype := .int) (a0 := (25, .inl (fun _ => 0))) (N := 25) (t0 := 0) (cA := K.G.T.1) (ty := .int) hO hg a_1062 rfl rfl (fun h => h) (fun _ h => h) (fun _ => rfl) (by decide) rfl (by decide) (Nat.le_of_ble_eq_true rfl) (Nat.le_of_ble_eq_true rfl) dX7_init_12 (fun q1 => ?_)
  refine q_putF (ws' := [(h0, .inr (7, [.int 0, .int 0, .int (-1 : Int32), .ref q1, .null, .null, .null, .null, .null, .null, .null, .null, .int 0, .int 0, .int 0, .int 0, .int 0, .int 0, .int 0, .int 0, .int 0, .int 0, .null, .null, .null, .int 0, .null, .int 0, .int 0, .int 0, .int 0, .int 0, .int 0, .int 0, .long 0, .null, .null, .int 0, .int 0, .int 0, .null, .null])), (q1, .inl (K.G.T.1, 25, .inl (fun _ => 0)))]) (ty := (.array .int)) (q0 := 0) (ci := 7) 3 hO hin inX7 tyX7 tyX7_ok nmX7 rfl rfl (by decide) a_1020 rfl rfl (by decide +kernel) rfl rfl (Nat.le_of_ble_eq_true rfl) rfl dX7_init_14 ?_
  refine q_aload (i := 0) hO rfl rfl dX7_init_17 ?_
  refine q_bipush hO bi_30 dX7_init_18 ?_
  refine q_newa (atype := .int) (a0 := (30, .inl (fun _ => 0))) (N := 30) (t0 := 0) (cA := K.G.T.1) (ty := .int) hO hg a_1062 rfl rfl (fun h => h) (fun _ h => h) (fun _ => rfl) (by decide) rfl (by decide) (Nat.le_of_ble_eq_true rfl) (Nat.le_of_ble_eq_true rfl) dX7_init_20 (fun q2 => ?_)
  refine q_putF (ws' := [(h0, .inr (7, [.int 0, .int 0, .int (-1 : Int32), .ref q1, .ref q2, .null, .null, .null, .null, .null, .null, .null, .int 0, .int 0, .int 0, .int 0, .int 0, .int 0, .int 0, .int 0, .int 0, .int 0, .null, .null, .null, .int 0, .null, .int 0, .int 0, .int 0, .int 0, .int 0, .int 0, .int 0, .long 0, .null, .null, .int 0, .int 0, .int 0, .null, .null])), (q1, .inl (K.G.T.1, 25, .inl (fun _ => 0))), (q2, .inl (K.G.T.1, 30, .inl (fun _ => 0)))]) (ty := (.array .int)) (q0 := 0) (ci := 7) 4 hO hin inX7 tyX7 tyX7_ok nmX7 rfl rfl (by decide) a_1024 rfl rfl (by decide +kernel) rfl rfl (Nat.le_of_ble_eq_true rfl) rfl dX7_init_22 ?_
  refine q_aload (i := 0) hO rfl rfl dX7_init_25 ?_
  refine q_bipush hO bi_40 dX7_init_26 ?_
  refine q_newa (atype := .int) (a0 := (40, .inl (fun _ => 0))) (N := 40) (t0 := 0) (cA := K.G.T.1) (ty := .int) hO hg a_1062 rfl rfl (fun h => h) (fun _ h => h) (fun _ => rfl) (by decide) rfl (by decide) (Nat.le_of_ble_eq_true rfl) (Nat.le_of_ble_eq_true rfl) dX7_init_28 (fun q3 => ?_)
  refine q_putF (ws' := [(h0, .inr (7, [.int 0, .int 0, .int (-1 : Int32), .ref q1, .ref q2, .ref q3, .null, .null, .null, .null, .null, .null, .int 0, .int 0, .int 0, .int 0, .int 0, .int 0, .int 0, .int 0, .int 0, .int 0, .null, .null, .null, .int 0, .null, .int 0, .int 0, .int 0, .int 0, .int 0, .int 0, .int 0, .long 0, .null, .null, .int 0, .int 0, .int 0, .null, .null])), (q1, .inl (K.G.T.1, 25, .inl (fun _ => 0))), (q2, .inl (K.G.T.1, 30, .inl (fun _ => 0))), (q3, .inl (K.G.T.1, 40, .inl (fun _ => 0)))]) (ty := (.array .int)) (q0 := 0) (ci := 7) 5 hO hin inX7 tyX7 tyX7_ok nmX7 rfl rfl (by decide) a_1025 rfl rfl (by decide +kernel) rfl rfl (Nat.le_of_ble_eq_true rfl) rfl dX7_init_30 ?_
  refine q_aload (i := 0) hO rfl rfl dX7_init_33 ?_
  refine q_bipush hO bi_25 dX7_init_34 ?_
  refine q_newa (atype := .int) (a0 := (25, .inl (fun _ => 0))) (N := 25) (t0 := 0) (cA := K.G.T.1) (ty := .int) hO hg a_1062 rfl rfl (fun h => h) (fun _ h => h) (fun _ => rfl) (by decide) rfl (by decide) (Nat.le_of_ble_eq_true rfl) (Nat.le_of_ble_eq_true rfl) dX7_init_36 (fun q4 => ?_)
  refine q_putF (ws' := [(h0, .inr (7, [.int 0, .int 0, .int (-1 : Int32), .ref q1, .ref q2, .ref q3, .ref q4, .null, .null, .null, .null, .null, .int 0, .int 0, .int 0, .int 0, .int 0, .int 0, .int 0, .int 0, .int 0, .int 0, .null, .null, .null, .int 0, .null, .int 0, .int 0, .int 0, .int 0, .int 0, .int 0, .int 0, .long 0, .null, .null, .int 0, .int 0, .int 0, .null, .null])), (q1, .inl (K.G.T.1, 25, .inl (fun _ => 0))), (q2, .inl (K.G.T.1, 30, .inl (fun _ => 0))), (q3, .inl (K.G.T.1, 40, .inl (fun _ => 0))), (q4, .inl (K.G.T.1, 25, .inl (fun _ => 0)))]) (ty := (.array .int)) (q0 := 0) (ci := 7) 6 hO hin inX7 tyX7 tyX7_ok nmX7 rfl rfl (by decide) a_1013 rfl rfl (by decide +kernel) rfl rfl (Nat.le_of_ble_eq_true rfl) rfl dX7_init_38 ?_
  refine q_aload (i := 0) hO rfl rfl dX7_init_41 ?_
  refine q_bipush hO bi_30 dX7_init_42 ?_
  refine q_newa (atype := .int) (a0 := (30, .inl (fun _ => 0))) (N := 30) (t0 := 0) (cA := K.G.T.1) (ty := .int) hO hg a_1062 rfl rfl (fun h => h) (fun _ h => h) (fun _ => rfl) (by decide) rfl (by decide) (Nat.le_of_ble_eq_true rfl) (Nat.le_of_ble_eq_true rfl) dX7_init_44 (fun q5 => ?_)
  refine q_putF (ws' := [(h0, .inr (7, [.int 0, .int 0, .int (-1 : Int32), .ref q1, .ref q2, .ref q3, .ref q4, .ref q5, .null, .null, .null, .null, .int 0, .int 0, .int 0, .int 0, .int 0, .int 0, .int 0, .int 0, .int 0, .int 0, .null, .null, .null, .int 0, .null, .int 0, .int 0, .int 0, .int 0, .int 0, .int 0, .int 0, .long 0, .null, .null, .int 0, .int 0, .int 0, .null, .null])), (q1, .inl (K.G.T.1, 25, .inl (fun _ => 0))), (q2, .inl (K.G.T.1, 30, .inl (fun _ => 0))), (q3, .inl (K.G.T.1, 40, .inl (fun _ => 0))), (q4, .inl (K.G.T.1, 25, .inl (fun _ => 0))), (q5, .inl (K.G.T.1, 30, .inl (fun _ => 0)))]) (ty := (.array .int)) (q0 := 0) (ci := 7) 7 hO hin inX7 tyX7 tyX7_ok nmX7 rfl rfl (by decide) a_1015 rfl rfl (by decide +kernel) rfl rfl (Nat.le_of_ble_eq_true rfl) rfl dX7_init_46 ?_
  refine q_aload (i := 0) hO rfl rfl dX7_init_49 ?_
  refine q_bipush hO bi_40 dX7_init_50 ?_
  refine q_newa (atype := .int) (a0 := (40, .inl (fun _ => 0))) (N := 40) (t0 := 0) (cA := K.G.T.1) (ty := .int) hO hg a_1062 rfl rfl (fun h => h) (fun _ h => h) (fun _ => rfl) (by decide) rfl (by decide) (Nat.le_of_ble_eq_true rfl) (Nat.le_of_ble_eq_true rfl) dX7_init_52 (fun q6 => ?_)
  refine q_putF (ws' := [(h0, .inr (7, [.int 0, .int 0, .int (-1 : Int32), .ref q1, .ref q2, .ref q3, .ref q4, .ref q5, .ref q6, .null, .null, .null, .int 0, .int 0, .int 0, .int 0, .int 0, .int 0, .int 0, .int 0, .int 0, .int 0, .null, .null, .null, .int 0, .null, .int 0, .int 0, .int 0, .int 0, .int 0, .int 0, .int 0, .long 0, .null, .null, .int 0, .int 0, .int 0, .null, .null])), (q1, .inl (K.G.T.1, 25, .inl (fun _ => 0))), (q2, .inl (K.G.T.1, 30, .inl (fun _ => 0))), (q3, .inl (K.G.T.1, 40, .inl (fun _ => 0))), (q4, .inl (K.G.T.1, 25, .inl (fun _ => 0))), (q5, .inl (K.G.T.1, 30, .inl (fun _ => 0))), (q6, .inl (K.G.T.1, 40, .inl (fun _ => 0)))]) (ty := (.array .int)) (q0 := 0) (ci := 7) 8 hO hin inX7 tyX7 tyX7_ok nmX7 rfl rfl (by decide) a_1018 rfl rfl (by decide +kernel) rfl rfl (Nat.le_of_ble_eq_true rfl) rfl dX7_init_54 ?_
  refine q_aload (i := 0) hO rfl rfl dX7_init_57 ?_
  refine q_bipush hO bi_30 dX7_init_58 ?_
  refine q_newa (atype := .int) (a0 := (30, .inl (fun _ => 0))) (N := 30) (t0 := 0) (cA := K.G.T.1) (ty := .int) hO hg a_1062 rfl rfl (fun h => h) (fun _ h => h) (fun _ => rfl) (by decide) rfl (by decide) (Nat.le_of_ble_eq_true rfl) (Nat.le_of_ble_eq_true rfl) dX7_init_60 (fun q7 => ?_)
  refine q_putF (ws' := [(h0, .inr (7, [.int 0, .int 0, .int (-1 : Int32), .ref q1, .ref q2, .ref q3, .ref q4, .ref q5, .ref q6, .ref q7, .null, .null, .int 0, .int 0, .int 0, .int 0, .int 0, .int 0, .int 0, .int 0, .int 0, .int 0, .null, .null, .null, .int 0, .null, .int 0, .int 0, .int 0, .int 0, .int 0, .int 0, .int 0, .long 0, .null, .null, .int 0, .int 0, .int 0, .null, .null])), (q1, .inl (K.G.T.1, 25, .inl (fun _ => 0))), (q2, .inl (K.G.T.1, 30, .inl (fun _ => 0))), (q3, .inl (K.G.T.1, 40, .inl (fun _ => 0))), (q4, .inl (K.G.T.1, 25, .inl (fun _ => 0))), (q5, .inl (K.G.T.1, 30, .inl (fun _ => 0))), (q6, .inl (K.G.T.1, 40, .inl (fun _ => 0))), (q7, .inl (K.G.T.1, 30, .inl (fun _ => 0)))]) (ty := (.array .int)) (q0 := 0) (ci := 7) 9 hO hin inX7 tyX7 tyX7_ok nmX7 rfl rfl (by decide) a_1016 rfl rfl (by decide +kernel) rfl rfl (Nat.le_of_ble_eq_true rfl) rfl dX7_init_62 ?_
  refine q_aload (i := 0) hO rfl rfl dX7_init_65 ?_
  refine q_iconst hO ci_5 dX7_init_66 ?_
  refine q_newa (atype := .int) (a0 := (5, .inl (fun _ => 0))) (N := 5) (t0 := 0) (cA := K.G.T.1) (ty := .int) hO hg a_1062 rfl rfl (fun h => h) (fun _ h => h) (fun _ => rfl) (by decide) rfl (by decide) (Nat.le_of_ble_eq_true rfl) (Nat.le_of_ble_eq_true rfl) dX7_init_67 (fun q8 => ?_)
  refine q_putF (ws' := [(h0, .inr (7, [.int 0, .int 0, .int (-1 : Int32), .ref q1, .ref q2, .ref q3, .ref q4, .ref q5, .ref q6, .ref q7, .ref q8, .null, .int 0, .int 0, .int 0, .int 0, .int 0, .int 0, .int 0, .int 0, .int 0, .int 0, .null, .null, .null, .int 0, .null, .int 0, .int 0, .int 0, .int 0, .int 0, .int 0, .int 0, .long 0, .null, .null, .int 0, .int 0, .int 0, .null, .null])), (q1, .inl (K.G.T.1, 25, .inl (fun _ => 0))), (q2, .inl (K.G.T.1, 30, .inl (fun _ => 0))), (q3, .inl (K.G.T.1, 40, .inl (fun _ => 0))), (q4, .inl (K.G.T.1, 25, .inl (fun _ => 0))), (q5, .inl (K.G.T.1, 30, .inl (fun _ => 0))), (q6, .inl (K.G.T.1, 40, .inl (fun _ => 0))), (q7, .inl (K.G.T.1, 30, .inl (fun _ => 0))), (q8, .inl (K.G.T.1, 5, .inl (fun _ => 0)))]) (ty := (.array .int)) (q0 := 0) (ci := 7) 10 hO hin inX7 tyX7 tyX7_ok nmX7 rfl rfl (by decide) a_1014 rfl rfl (by decide +kernel) rfl rfl (Nat.le_of_ble_eq_true rfl) rfl dX7_init_69 ?_
  refine q_aload (i := 0) hO rfl rfl dX7_init_72 ?_
  refine q_iconst hO ci_5 dX7_init_73 ?_
  refine q_newa (atype := .long) (a0 := (5, .inr (.inl (fun _ => 0)))) (N := 5) (t0 := 2) (cA := K.G.T.2.2.1) (ty := .long) hO hg a_1102 rfl rfl (fun h => h) (fun _ h => h) (fun _ => rfl) (by decide) rfl (by decide) (Nat.le_of_ble_eq_true rfl) (Nat.le_of_ble_eq_true rfl) dX7_init_74 (fun q9 => ?_)
  refine q_putF (ws' := [(h0, .inr (7, [.int 0, .int 0, .int (-1 : Int32), .ref q1, .ref q2, .ref q3, .ref q4, .ref q5, .ref q6, .ref q7, .ref q8, .ref q9, .int 0, .int 0, .int 0, .int 0, .int 0, .int 0, .int 0, .int 0, .int 0, .int 0, .null, .null, .null, .int 0, .null, .int 0, .int 0, .int 0, .int 0, .int 0, .int 0, .int 0, .long 0, .null, .null, .int 0, .int 0, .int 0, .null, .null])), (q1, .inl (K.G.T.1, 25, .inl (fun _ => 0))), (q2, .inl (K.G.T.1, 30, .inl (fun _ => 0))), (q3, .inl (K.G.T.1, 40, .inl (fun _ => 0))), (q4, .inl (K.G.T.1, 25, .inl (fun _ => 0))), (q5, .inl (K.G.T.1, 30, .inl (fun _ => 0))), (q6, .inl (K.G.T.1, 40, .inl (fun _ => 0))), (q7, .inl (K.G.T.1, 30, .inl (fun _ => 0))), (q8, .inl (K.G.T.1, 5, .inl (fun _ => 0))), (q9, .inl (K.G.T.2.2.1, 5, .inr (.inl (fun _ => 0))))]) (ty := (.array .long)) (q0 := 0) (ci := 7) 11 hO hin inX7 tyX7 tyX7_ok nmX7 rfl rfl (by decide) a_1011 rfl rfl (by decide +kernel) rfl rfl (Nat.le_of_ble_eq_true rfl) rfl dX7_init_76 ?_
  refine q_aload (i := 0) hO rfl rfl dX7_init_79 ?_
  refine q_sipush hO si_179 dX7_init_80 ?_
  refine q_newa (atype := .int) (a0 := (179, .inl (fun _ => 0))) (N := 179) (t0 := 0) (cA := K.G.T.1) (ty := .int) hO hg a_1062 rfl rfl (fun h => h) (fun _ h => h) (fun _ => rfl) (by decide) rfl (by decide) (Nat.le_of_ble_eq_true rfl) (Nat.le_of_ble_eq_true rfl) dX7_init_83 (fun q10 => ?_)
  refine q_putF (ws' := [(h0, .inr (7, [.int 0, .int 0, .int (-1 : Int32), .ref q1, .ref q2, .ref q3, .ref q4, .ref q5, .ref q6, .ref q7, .ref q8, .ref q9, .int 0, .int 0, .int 0, .int 0, .int 0, .int 0, .int 0, .int 0, .int 0, .int 0, .ref q10, .null, .null, .int 0, .null, .int 0, .int 0, .int 0, .int 0, .int 0, .int 0, .int 0, .long 0, .null, .null, .int 0, .int 0, .int 0, .null, .null])), (q1, .inl (K.G.T.1, 25, .inl (fun _ => 0))), (q2, .inl (K.G.T.1, 30, .inl (fun _ => 0))), (q3, .inl (K.G.T.1, 40, .inl (fun _ => 0))), (q4, .inl (K.G.T.1, 25, .inl (fun _ => 0))), (q5, .inl (K.G.T.1, 30, .inl (fun _ => 0))), (q6, .inl (K.G.T.1, 40, .inl (fun _ => 0))), (q7, .inl (K.G.T.1, 30, .inl (fun _ => 0))), (q8, .inl (K.G.T.1, 5, .inl (fun _ => 0))), (q9, .inl (K.G.T.2.2.1, 5, .inr (.inl (fun _ => 0)))), (q10, .inl (K.G.T.1, 179, .inl (fun _ => 0)))]) (ty := (.array .int)) (q0 := 0) (ci := 7) 22 hO hin inX7 tyX7 tyX7_ok nmX7 rfl rfl (by decide) a_1021 rfl rfl (by decide +kernel) rfl rfl (Nat.le_of_ble_eq_true rfl) rfl dX7_init_85 ?_
  refine q_aload (i := 0) hO rfl rfl dX7_init_88 ?_
  refine q_sipush hO si_179 dX7_init_89 ?_
  refine q_newa (atype := .int) (a0 := (179, .inl (fun _ => 0))) (N := 179) (t0 := 0) (cA := K.G.T.1) (ty := .int) hO hg a_1062 rfl rfl (fun h => h) (fun _ h => h) (fun _ => rfl) (by decide) rfl (by decide) (Nat.le_of_ble_eq_true rfl) (Nat.le_of_ble_eq_true rfl) dX7_init_92 (fun q11 => ?_)
  refine q_putF (ws' := [(h0, .inr (7, [.int 0, .int 0, .int (-1 : Int32), .ref q1, .ref q2, .ref q3, .ref q4, .ref q5, .ref q6, .ref q7, .ref q8, .ref q9, .int 0, .int 0, .int 0, .int 0, .int 0, .int 0, .int 0, .int 0, .int 0, .int 0, .ref q10, .ref q11, .null, .int 0, .null, .int 0, .int 0, .int 0, .int 0, .int 0, .int 0, .int 0, .long 0, .null, .null, .int 0, .int 0, .int 0, .null, .null])), (q1, .inl (K.G.T.1, 25, .inl (fun _ => 0))), (q2, .inl (K.G.T.1, 30, .inl (fun _ => 0))), (q3, .inl (K.G.T.1, 40, .inl (fun _ => 0))), (q4, .inl (K.G.T.1, 25, .inl (fun _ => 0))), (q5, .inl (K.G.T.1, 30, .inl (fun _ => 0))), (q6, .inl (K.G.T.1, 40, .inl (fun _ => 0))), (q7, .inl (K.G.T.1, 30, .inl (fun _ => 0))), (q8, .inl (K.G.T.1, 5, .inl (fun _ => 0))), (q9, .inl (K.G.T.2.2.1, 5, .inr (.inl (fun _ => 0)))), (q10, .inl (K.G.T.1, 179, .inl (fun _ => 0))), (q11, .inl (K.G.T.1, 179, .inl (fun _ => 0)))]) (ty := (.array .int)) (q0 := 0) (ci := 7) 23 hO hin inX7 tyX7 tyX7_ok nmX7 rfl rfl (by decide) a_1040 rfl rfl (by decide +kernel) rfl rfl (Nat.le_of_ble_eq_true rfl) rfl dX7_init_94 ?_
  refine q_aload (i := 0) hO rfl rfl dX7_init_97 ?_
  refine q_sipush hO si_179 dX7_init_98 ?_
  refine q_newa (atype := .int) (a0 := (179, .inl (fun _ => 0))) (N := 179) (t0 := 0) (cA := K.G.T.1) (ty := .int) hO hg a_1062 rfl rfl (fun h => h) (fun _ h => h) (fun _ => rfl) (by decide) rfl (by decide) (Nat.le_of_ble_eq_true rfl) (Nat.le_of_ble_eq_true rfl) dX7_init_101 (fun q12 => ?_)
  refine q_putF (ws' := [(h0, .inr (7, [.int 0, .int 0, .int (-1 : Int32), .ref q1, .ref q2, .ref q3, .ref q4, .ref q5, .ref q6, .ref q7, .ref q8, .ref q9, .int 0, .int 0, .int 0, .int 0, .int 0, .int 0, .int 0, .int 0, .int 0, .int 0, .ref q10, .ref q11, .ref q12, .int 0, .null, .int 0, .int 0, .int 0, .int 0, .int 0, .int 0, .int 0, .long 0, .null, .null, .int 0, .int 0, .int 0, .null, .null])), (q1, .inl (K.G.T.1, 25, .inl (fun _ => 0))), (q2, .inl (K.G.T.1, 30, .inl (fun _ => 0))), (q3, .inl (K.G.T.1, 40, .inl (fun _ => 0))), (q4, .inl (K.G.T.1, 25, .inl (fun _ => 0))), (q5, .inl (K.G.T.1, 30, .inl (fun _ => 0))), (q6, .inl (K.G.T.1, 40, .inl (fun _ => 0))), (q7, .inl (K.G.T.1, 30, .inl (fun _ => 0))), (q8, .inl (K.G.T.1, 5, .inl (fun _ => 0))), (q9, .inl (K.G.T.2.2.1, 5, .inr (.inl (fun _ => 0)))), (q10, .inl (K.G.T.1, 179, .inl (fun _ => 0))), (q11, .inl (K.G.T.1, 179, .inl (fun _ => 0))), (q12, .inl (K.G.T.1, 179, .inl (fun _ => 0)))]) (ty := (.array .int)) (q0 := 0) (ci := 7) 24 hO hin inX7 tyX7 tyX7_ok nmX7 rfl rfl (by decide) a_1039 rfl rfl (by decide +kernel) rfl rfl (Nat.le_of_ble_eq_true rfl) rfl dX7_init_103 ?_
  refine q_aload (i := 0) hO rfl rfl dX7_init_106 ?_
  refine q_sipush hO si_900 dX7_init_107 ?_
  refine q_newa (atype := .byte) (a0 := (900, .inl (fun _ => 0))) (N := 900) (t0 := 1) (cA := K.G.T.2.1) (ty := .byte) hO hg a_1061 rfl rfl (fun h => h) (fun _ h => h) (fun _ => rfl) (by decide) rfl (by decide) (Nat.le_of_ble_eq_true rfl) (Nat.le_of_ble_eq_true rfl) dX7_init_110 (fun q13 => ?_)
  refine q_putF (ws' := [(h0, .inr (7, [.int 0, .int 0, .int (-1 : Int32), .ref q1, .ref q2, .ref q3, .ref q4, .ref q5, .ref q6, .ref q7, .ref q8, .ref q9, .int 0, .int 0, .int 0, .int 0, .int 0, .int 0, .int 0, .int 0, .int 0, .int 0, .ref q10, .ref q11, .ref q12, .int 0, .ref q13, .int 0, .int 0, .int 0, .int 0, .int 0, .int 0, .int 0, .long 0, .null, .null, .int 0, .int 0, .int 0, .null, .null])), (q1, .inl (K.G.T.1, 25, .inl (fun _ => 0))), (q2, .inl (K.G.T.1, 30, .inl (fun _ => 0))), (q3, .inl (K.G.T.1, 40, .inl (fun _ => 0))), (q4, .inl (K.G.T.1, 25, .inl (fun _ => 0))), (q5, .inl (K.G.T.1, 30, .inl (fun _ => 0))), (q6, .inl (K.G.T.1, 40, .inl (fun _ => 0))), (q7, .inl (K.G.T.1, 30, .inl (fun _ => 0))), (q8, .inl (K.G.T.1, 5, .inl (fun _ => 0))), (q9, .inl (K.G.T.2.2.1, 5, .inr (.inl (fun _ => 0)))), (q10, .inl (K.G.T.1, 179, .inl (fun _ => 0))), (q11, .inl (K.G.T.1, 179, .inl (fun _ => 0))), (q12, .inl (K.G.T.1, 179, .inl (fun _ => 0))), (q13, .inl (K.G.T.2.1, 900, .inl (fun _ => 0)))]) (ty := (.array .byte)) (q0 := 0) (ci := 7) 26 hO hin inX7 tyX7 tyX7_ok nmX7 rfl rfl (by decide) a_1003 rfl rfl (by decide +kernel) rfl rfl (Nat.le_of_ble_eq_true rfl) rfl dX7_init_112 ?_
  refine q_aload (i := 0) hO rfl rfl dX7_init_115 ?_
  refine q_sipush hO si_726 dX7_init_116 ?_
  refine q_newa (atype := .int) (a0 := (726, .inl (fun _ => 0))) (N := 726) (t0 := 0) (cA := K.G.T.1) (ty := .int) hO hg a_1062 rfl rfl (fun h => h) (fun _ h => h) (fun _ => rfl) (by decide) rfl (by decide) (Nat.le_of_ble_eq_true rfl) (Nat.le_of_ble_eq_true rfl) dX7_init_119 (fun q14 => ?_)
  refine q_putF (ws' := [(h0, .inr (7, [.int 0, .int 0, .int (-1 : Int32), .ref q1, .ref q2, .ref q3, .ref q4, .ref q5, .ref q6, .ref q7, .ref q8, .ref q9, .int 0, .int 0, .int 0, .int 0, .int 0, .int 0, .int 0, .int 0, .int 0, .int 0, .ref q10, .ref q11, .ref q12, .int 0, .ref q13, .int 0, .int 0, .int 0, .int 0, .int 0, .int 0, .int 0, .long 0, .ref q14, .null, .int 0, .int 0, .int 0, .null, .null])), (q1, .inl (K.G.T.1, 25, .inl (fun _ => 0))), (q2, .inl (K.G.T.1, 30, .inl (fun _ => 0))), (q3, .inl (K.G.T.1, 40, .inl (fun _ => 0))), (q4, .inl (K.G.T.1, 25, .inl (fun _ => 0))), (q5, .inl (K.G.T.1, 30, .inl (fun _ => 0))), (q6, .inl (K.G.T.1, 40, .inl (fun _ => 0))), (q7, .inl (K.G.T.1, 30, .inl (fun _ => 0))), (q8, .inl (K.G.T.1, 5, .inl (fun _ => 0))), (q9, .inl (K.G.T.2.2.1, 5, .inr (.inl (fun _ => 0)))), (q10, .inl (K.G.T.1, 179, .inl (fun _ => 0))), (q11, .inl (K.G.T.1, 179, .inl (fun _ => 0))), (q12, .inl (K.G.T.1, 179, .inl (fun _ => 0))), (q13, .inl (K.G.T.2.1, 900, .inl (fun _ => 0))), (q14, .inl (K.G.T.1, 726, .inl (fun _ => 0)))]) (ty := (.array .int)) (q0 := 0) (ci := 7) 35 hO hin inX7 tyX7 tyX7_ok nmX7 rfl rfl (by decide) a_1032 rfl rfl (by decide +kernel) rfl rfl (Nat.le_of_ble_eq_true rfl) rfl dX7_init_121 ?_
  refine q_aload (i := 0) hO rfl rfl dX7_init_124 ?_
  refine q_iconst hO ci_5 dX7_init_125 ?_
  refine q_newa (atype := .int) (a0 := (5, .inl (fun _ => 0))) (N := 5) (t0 := 0) (cA := K.G.T.1) (ty := .int) hO hg a_1062 rfl rfl (fun h => h) (fun _ h => h) (fun _ => rfl) (by decide) rfl (by decide) (Nat.le_of_ble_eq_true rfl) (Nat.le_of_ble_eq_true rfl) dX7_init_126 (fun q15 => ?_)
  refine q_putF (ws' := [(h0, .inr (7, [.int 0, .int 0, .int (-1 : Int32), .ref q1, .ref q2, .ref q3, .ref q4, .ref q5, .ref q6, .ref q7, .ref q8, .ref q9, .int 0, .int 0, .int 0, .int 0, .int 0, .int 0, .int 0, .int 0, .int 0, .int 0, .ref q10, .ref q11, .ref q12, .int 0, .ref q13, .int 0, .int 0, .int 0, .int 0, .int 0, .int 0, .int 0, .long 0, .ref q14, .ref q15, .int 0, .int 0, .int 0, .null, .null])), (q1, .inl (K.G.T.1, 25, .inl (fun _ => 0))), (q2, .inl (K.G.T.1, 30, .inl (fun _ => 0))), (q3, .inl (K.G.T.1, 40, .inl (fun _ => 0))), (q4, .inl (K.G.T.1, 25, .inl (fun _ => 0))), (q5, .inl (K.G.T.1, 30, .inl (fun _ => 0))), (q6, .inl (K.G.T.1, 40, .inl (fun _ => 0))), (q7, .inl (K.G.T.1, 30, .inl (fun _ => 0))), (q8, .inl (K.G.T.1, 5, .inl (fun _ => 0))), (q9, .inl (K.G.T.2.2.1, 5, .inr (.inl (fun _ => 0)))), (q10, .inl (K.G.T.1, 179, .inl (fun _ => 0))), (q11, .inl (K.G.T.1, 179, .inl (fun _ => 0))), (q12, .inl (K.G.T.1, 179, .inl (fun _ => 0))), (q13, .inl (K.G.T.2.1, 900, .inl (fun _ => 0))), (q14, .inl (K.G.T.1, 726, .inl (fun _ => 0))), (q15, .inl (K.G.T.1, 5, .inl (fun _ => 0)))]) (ty := (.array .int)) (q0 := 0) (ci := 7) 36 hO hin inX7 tyX7 tyX7_ok nmX7 rfl rfl (by decide) a_1034 rfl rfl (by decide +kernel) rfl rfl (Nat.le_of_ble_eq_true rfl) rfl dX7_init_128 ?_
  refine q_aload (i := 0) hO rfl rfl dX7_init_131 ?_
  refine q_iconst hO ci_5 dX7_init_132 ?_
  refine q_newa (atype := .int) (a0 := (5, .inl (fun _ => 0))) (N := 5) (t0 := 0) (cA := K.G.T.1) (ty := .int) hO hg a_1062 rfl rfl (fun h => h) (fun _ h => h) (fun _ => rfl) (by decide) rfl (by decide) (Nat.le_of_ble_eq_true rfl) (Nat.le_of_ble_eq_true rfl) dX7_init_133 (fun q16 => ?_)
  refine q_putF (ws' := [(h0, .inr (7, [.int 0, .int 0, .int (-1 : Int32), .ref q1, .ref q2, .ref q3, .ref q4, .ref q5, .ref q6, .ref q7, .ref q8, .ref q9, .int 0, .int 0, .int 0, .int 0, .int 0, .int 0, .int 0, .int 0, .int 0, .int 0, .ref q10, .ref q11, .ref q12, .int 0, .ref q13, .int 0, .int 0, .int 0, .int 0, .int 0, .int 0, .int 0, .long 0, .ref q14, .ref q15, .int 0, .int 0, .int 0, .ref q16, .null])), (q1, .inl (K.G.T.1, 25, .inl (fun _ => 0))), (q2, .inl (K.G.T.1, 30, .inl (fun _ => 0))), (q3, .inl (K.G.T.1, 40, .inl (fun _ => 0))), (q4, .inl (K.G.T.1, 25, .inl (fun _ => 0))), (q5, .inl (K.G.T.1, 30, .inl (fun _ => 0))), (q6, .inl (K.G.T.1, 40, .inl (fun _ => 0))), (q7, .inl (K.G.T.1, 30, .inl (fun _ => 0))), (q8, .inl (K.G.T.1, 5, .inl (fun _ => 0))), (q9, .inl (K.G.T.2.2.1, 5, .inr (.inl (fun _ => 0)))), (q10, .inl (K.G.T.1, 179, .inl (fun _ => 0))), (q11, .inl (K.G.T.1, 179, .inl (fun _ => 0))), (q12, .inl (K.G.T.1, 179, .inl (fun _ => 0))), (q13, .inl (K.G.T.2.1, 900, .inl (fun _ => 0))), (q14, .inl (K.G.T.1, 726, .inl (fun _ => 0))), (q15, .inl (K.G.T.1, 5, .inl (fun _ => 0))), (q16, .inl (K.G.T.1, 5, .inl (fun _ => 0)))]) (ty := (.array .int)) (q0 := 0) (ci := 7) 40 hO hin inX7 tyX7 tyX7_ok nmX7 rfl rfl (by decide) a_1037 rfl rfl (by decide +kernel) rfl rfl (Nat.le_of_ble_eq_true rfl) rfl dX7_init_135 ?_
  refine q_aload (i := 0) hO rfl rfl dX7_init_138 ?_
  refine q_bipush hO bi_121 dX7_init_139 ?_
  refine q_newa (atype := .boolean) (a0 := (121, .inl (fun _ => 0))) (N := 121) (t0 := 3) (cA := K.G.T.2.2.2) (ty := .boolean) hO hg a_1103 rfl rfl (fun h => h) (fun _ h => h) (fun _ => rfl) (by decide) rfl (by decide) (Nat.le_of_ble_eq_true rfl) (Nat.le_of_ble_eq_true rfl) dX7_init_141 (fun q17 => ?_)
  refine q_putF (ws' := [(h0, .inr (7, [.int 0, .int 0, .int (-1 : Int32), .ref q1, .ref q2, .ref q3, .ref q4, .ref q5, .ref q6, .ref q7, .ref q8, .ref q9, .int 0, .int 0, .int 0, .int 0, .int 0, .int 0, .int 0, .int 0, .int 0, .int 0, .ref q10, .ref q11, .ref q12, .int 0, .ref q13, .int 0, .int 0, .int 0, .int 0, .int 0, .int 0, .int 0, .long 0, .ref q14, .ref q15, .int 0, .int 0, .int 0, .ref q16, .ref q17])), (q1, .inl (K.G.T.1, 25, .inl (fun _ => 0))), (q2, .inl (K.G.T.1, 30, .inl (fun _ => 0))), (q3, .inl (K.G.T.1, 40, .inl (fun _ => 0))), (q4, .inl (K.G.T.1, 25, .inl (fun _ => 0))), (q5, .inl (K.G.T.1, 30, .inl (fun _ => 0))), (q6, .inl (K.G.T.1, 40, .inl (fun _ => 0))), (q7, .inl (K.G.T.1, 30, .inl (fun _ => 0))), (q8, .inl (K.G.T.1, 5, .inl (fun _ => 0))), (q9, .inl (K.G.T.2.2.1, 5, .inr (.inl (fun _ => 0)))), (q10, .inl (K.G.T.1, 179, .inl (fun _ => 0))), (q11, .inl (K.G.T.1, 179, .inl (fun _ => 0))), (q12, .inl (K.G.T.1, 179, .inl (fun _ => 0))), (q13, .inl (K.G.T.2.1, 900, .inl (fun _ => 0))), (q14, .inl (K.G.T.1, 726, .inl (fun _ => 0))), (q15, .inl (K.G.T.1, 5, .inl (fun _ => 0))), (q16, .inl (K.G.T.1, 5, .inl (fun _ => 0))), (q17, .inl (K.G.T.2.2.2, 121, .inl (fun _ => 0)))]) (ty := (.array .boolean)) (q0 := 0) (ci := 7) 41 hO hin inX7 tyX7 tyX7_ok nmX7 rfl rfl (by decide) a_1038 rfl rfl (by decide +kernel) rfl rfl (Nat.le_of_ble_eq_true rfl) rfl dX7_init_143 ?_
  exact q_ret (B := fun k => match k with | 0 => h0 | 1 => q1 | 2 => q2 | 3 => q3 | 4 => q4 | 5 => q5 | 6 => q6 | 7 => q7 | 8 => q8 | 9 => q9 | 10 => q10 | 11 => q11 | 12 => q12 | 13 => q13 | 14 => q14 | 15 => q15 | 16 => q16 | 17 => q17 | _ => 0) (F := F_X7 K.G) hO hr hg rfl rfl (Nat.le_of_ble_eq_true rfl) (Nat.le_of_ble_eq_true rfl) dX7_init_146
theorem cal_X7_init : CalI yX7_init cX7_init 1 := ⟨a_1104, a_1105, a_464, rfl, by decide, by decide, by decide +kernel⟩

/-! PURE: the fewest venues for u units -/
def fF (g : Nat → Option Int) (u l i : Nat) : Option Int := if i = 0 then g u else oadd 1 (g (u - i * l))
def fw (d : MD) (p : Int) : Nat → Nat → Option Int
  | 0, u => if u = 0 then some 0 else none
  | v + 1, u => mnf (fF (fw d p v) u (d.lo v).toNat) (kx d p (-1) v u)
theorem kx_0 {d : MD} {p but : Int} {v : Nat} : kx d p but v 0 = 0 := by
  unfold kx
  split
  · rfl
  · rw [show min 0 (dep d p v).toNat = 0 from by omega, Nat.zero_div]
theorem fw_0 {d : MD} {p : Int} : ∀ v, fw d p v 0 = some 0
  | 0 => rfl
  | v + 1 => by
    unfold fw
    rw [kx_0]
    show fF (fw d p v) 0 _ 0 = _
    unfold fF
    rw [if_pos rfl]
    exact fw_0 v
theorem fw_OB {d : MD} {p : Int} : ∀ (v u : Nat), OB (v : Int) (fw d p v u)
  | 0, u => by
    intro x hx
    unfold fw at hx
    split at hx
    · have := Option.some.inj hx
      omega
    · cases hx
  | v + 1, u => by
    unfold fw
    refine OB_mnf (fun i hi => ?_)
    unfold fF
    split
    · exact OB_mono (by omega) (fw_OB v u)
    · exact OB_mono (by omega) (OB_oadd (a := 1) (by omega) (by omega) (fw_OB v _))
/-- the class: one number -/
theorem c_fw1 {m V q v u l K room : Nat} {g : Nat → Option Int} {k31 : Int32 → Int32 → Wd → Option (Int32 × Wd)} {k57 : Int32 → Int32 → Int32 → Int32 → Int32 → Wd → Option (Int32 × Wd)} (hv : v < V) (hV : V ≤ 5) (hu : u ≤ 120) (hu0 : 0 < u) (hl : 1 ≤ l) (hl2 : l ≤ 20) (hr : room ≤ 120) (hK : min u room / l = K) (hgb : ∀ w, OB 10 (g w)) :
    ∀ (r i n : Nat) (z : Int) (acc : Option Int) (σ : Wd), z = ((i * l : Nat) : Int) → 1 ≤ i → i + r = K + 1 → r < n → OB 20 acc → σ.1 9 u = I (enc 1000000000 acc) → (∀ w, w < u → σ.1 9 w = I (enc 1000000000 (g w))) →
      ∃ σ', f_X1_fewestVenues_66 m k31 k57 n (I (q : Int)) (I (v : Int)) (I (l : Int)) (I (room : Int)) (I (u : Int)) (I z) σ = k57 (I (q : Int)) (I (v : Int)) (I (l : Int)) (I (room : Int)) (I ((u : Int) - 1)) σ'
        ∧ σ'.1 9 u = I (enc 1000000000 (amn (fF g u l) r i acc)) ∧ (∀ w, w ≠ u → σ'.1 9 w = σ.1 9 w) ∧ (∀ k, k ≠ 9 → σ'.1 k = σ.1 k) ∧ σ'.2 = σ.2
  | 0, i, n + 1, z, acc, σ, hz, hi1, hi, _, ha, hacc, hg => by
    obtain ⟨k1, k2⟩ := div_box (M := min u room) hl
    rw [hK] at k1 k2
    have hi : i = K + 1 := by omega
    subst hi
    have e : (K + 1) * l = K * l + l := Nat.succ_mul K l
    refine ⟨σ, ?_, hacc, fun _ _ => rfl, fun _ _ => rfl, rfl⟩
    rw [f_X1_fewestVenues_66]
    by_cases c : (room : Int) < z
    · simp (disch := omega) only [gd_t, bd_s, nm_W, nm_I, I_add, I_sub, I_mul, I_neg, I_le_t, I_le_f, I_lt_t, I_lt_f, I_eq_t, I_eq_f, I_inb', I_ix', Int.toNat_natCast, decide_true, decide_false, Bool.not_false, Bool.not_true, if_true, if_false, wi_eq, wi_eq', wi_ne, wi_row, wi_2, N0, N1, N2, N3, N4, N5, N6, N7, N8, N9, N10, N11, N12, N13, N14, N15, N16, N17, N18, N19, N20, N21, N22, N23, N24, N25, N26, N27, N28, N29, N30, N31, N32, N33, N34, N35, N36, N37, N38, N39, N40, N41, N42, N43, N45, N48, N57, N59, N88, N89, N97, N99, N120, N121, N122, N179, N200, N255, N300, N400, N880, N900, N999, N1019, N50000000, N100000000, N1000000000, N2147483647, N2147483648, f_X1_fewestVenues_131]
      rfl
    · simp (disch := omega) only [gd_t, bd_s, nm_W, nm_I, I_add, I_sub, I_mul, I_neg, I_le_t, I_le_f, I_lt_t, I_lt_f, I_eq_t, I_eq_f, I_inb', I_ix', Int.toNat_natCast, decide_true, decide_false, Bool.not_false, Bool.not_true, if_true, if_false, wi_eq, wi_eq', wi_ne, wi_row, wi_2, N0, N1, N2, N3, N4, N5, N6, N7, N8, N9, N10, N11, N12, N13, N14, N15, N16, N17, N18, N19, N20, N21, N22, N23, N24, N25, N26, N27, N28, N29, N30, N31, N32, N33, N34, N35, N36, N37, N38, N39, N40, N41, N42, N43, N45, N48, N57, N59, N88, N89, N97, N99, N120, N121, N122, N179, N200, N255, N300, N400, N880, N900, N999, N1019, N50000000, N100000000, N1000000000, N2147483647, N2147483648, f_X1_fewestVenues_131]
      rfl
  | r + 1, i, n + 1, z, acc, σ, hz, hi1, hi, hn, ha, hacc, hg => by
    obtain ⟨k1, k2⟩ := div_box (M := min u room) hl
    rw [hK] at k1 k2
    have hiK : i ≤ K := by omega
    have m1 : i * l ≤ K * l := Nat.mul_le_mul_right l hiK
    have m2 : 1 * l ≤ i * l := Nat.mul_le_mul_right l hi1
    have e : (i + 1) * l = i * l + l := Nat.succ_mul i l
    have t1 : ((u : Int) - z).toNat = u - i * l := by omega
    have hF : fF g u l i = oadd 1 (g (u - i * l)) := by unfold fF; rw [if_neg (by omega)]
    have gb := hgb (u - i * l)
    have he := hg (u - i * l) (by omega)
    unfold amn
    rw [hF]
    have ih := fun acc σ (ha : OB 20 acc) => c_fw1 (m := m) (q := q) (k31 := k31) (k57 := k57) hv hV hu hu0 hl hl2 hr hK hgb r (i + 1) n (z + (l : Int)) acc σ (by omega) (by omega) (by omega) (by omega) ha
    cases hgi : g (u - i * l) with
    | none =>
      rw [show oadd 1 none = none from rfl, omin_none]
      obtain ⟨σ', q1, q2⟩ := ih acc σ ha hacc hg
      refine ⟨σ', ?_, q2⟩
      rw [hgi] at he
      obtain ⟨F, hF⟩ : ∃ F : Int, F = enc 1000000000 none := ⟨_, rfl⟩
      rw [← hF] at he
      have hF' : F = 1000000000 := hF
      rw [← q1, f_X1_fewestVenues_66]
      cases acc with
      | none =>
        rw [← hF] at hacc
        simp (disch := omega) only [gd_t, bd_s, nm_W, nm_I, I_add, I_sub, I_mul, I_neg, I_le_t, I_le_f, I_lt_t, I_lt_f, I_eq_t, I_eq_f, I_inb', I_ix', Int.toNat_natCast, decide_true, decide_false, Bool.not_false, Bool.not_true, if_true, if_false, wi_eq, wi_eq', wi_ne, wi_row, wi_2, N0, N1, N2, N3, N4, N5, N6, N7, N8, N9, N10, N11, N12, N13, N14, N15, N16, N17, N18, N19, N20, N21, N22, N23, N24, N25, N26, N27, N28, N29, N30, N31, N32, N33, N34, N35, N36, N37, N38, N39, N40, N41, N42, N43, N45, N48, N57, N59, N88, N89, N97, N99, N120, N121, N122, N179, N200, N255, N300, N400, N880, N900, N999, N1019, N50000000, N100000000, N1000000000, N2147483647, N2147483648, t1, he, hacc, f_X1_fewestVenues_121]
      | some y =>
        have yb := ha y rfl
        simp (disch := omega) only [gd_t, bd_s, nm_W, nm_I, I_add, I_sub, I_mul, I_neg, I_le_t, I_le_f, I_lt_t, I_lt_f, I_eq_t, I_eq_f, I_inb', I_ix', Int.toNat_natCast, decide_true, decide_false, Bool.not_false, Bool.not_true, if_true, if_false, wi_eq, wi_eq', wi_ne, wi_row, wi_2, N0, N1, N2, N3, N4, N5, N6, N7, N8, N9, N10, N11, N12, N13, N14, N15, N16, N17, N18, N19, N20, N21, N22, N23, N24, N25, N26, N27, N28, N29, N30, N31, N32, N33, N34, N35, N36, N37, N38, N39, N40, N41, N42, N43, N45, N48, N57, N59, N88, N89, N97, N99, N120, N121, N122, N179, N200, N255, N300, N400, N880, N900, N999, N1019, N50000000, N100000000, N1000000000, N2147483647, N2147483648, t1, he, hacc, enc, f_X1_fewestVenues_121]
    | some x =>
      have xb := gb x hgi
      have ob : OB 20 (oadd 1 (some x)) := by
        intro w hw
        have hw : some (1 + x) = some w := hw
        have hw := Option.some.inj hw
        omega
      rw [hgi] at he
      by_cases c : enc 1000000000 acc ≤ x + 1
      · have ea : omin acc (oadd 1 (some x)) = acc := by
          cases acc with
          | none => exact absurd c (by show ¬ (1000000000 : Int) ≤ _; omega)
          | some y =>
            have c : y ≤ x + 1 := c
            show some (if 1 + x < y then 1 + x else y) = some y
            rw [if_neg (by omega)]
        rw [ea]
        obtain ⟨σ', q1, q2⟩ := ih acc σ ha hacc hg
        refine ⟨σ', ?_, q2⟩
        rw [← q1, f_X1_fewestVenues_66]
        cases acc with
        | none => exact absurd c (by show ¬ (1000000000 : Int) ≤ _; omega)
        | some y =>
          have yb := ha y rfl
          have c : y ≤ x + 1 := c
          simp (disch := omega) only [gd_t, bd_s, nm_W, nm_I, I_add, I_sub, I_mul, I_neg, I_le_t, I_le_f, I_lt_t, I_lt_f, I_eq_t, I_eq_f, I_inb', I_ix', Int.toNat_natCast, decide_true, decide_false, Bool.not_false, Bool.not_true, if_true, if_false, wi_eq, wi_eq', wi_ne, wi_row, wi_2, N0, N1, N2, N3, N4, N5, N6, N7, N8, N9, N10, N11, N12, N13, N14, N15, N16, N17, N18, N19, N20, N21, N22, N23, N24, N25, N26, N27, N28, N29, N30, N31, N32, N33, N34, N35, N36, N37, N38, N39, N40, N41, N42, N43, N45, N48, N57, N59, N88, N89, N97, N99, N120, N121, N122, N179, N200, N255, N300, N400, N880, N900, N999, N1019, N50000000, N100000000, N1000000000, N2147483647, N2147483648, t1, he, hacc, enc, f_X1_fewestVenues_121]
      · have ea : omin acc (oadd 1 (some x)) = some (1 + x) := by
          cases acc with
          | none => rfl
          | some y =>
            have c : ¬ y ≤ x + 1 := c
            show some (if 1 + x < y then 1 + x else y) = some (1 + x)
            rw [if_pos (by omega)]
        rw [ea]
        obtain ⟨σ', q1, q2, q3, q4, q5⟩ := ih (some (1 + x)) (wi σ 9 u (I (x + 1))) ob (by rw [wi_eq]; show I (x + 1) = I (1 + x); rw [Int.add_comm]) (fun w hw => by rw [wi_ne (by omega)]; exact hg w hw)
        refine ⟨σ', ?_, q2, fun w hw => by rw [q3 w hw, wi_ne hw], fun k hk => by rw [q4 k hk, wi_row hk], by rw [q5, wi_2]⟩
        rw [← q1, f_X1_fewestVenues_66]
        cases acc with
        | none =>
          obtain ⟨F, hF⟩ : ∃ F : Int, F = enc 1000000000 none := ⟨_, rfl⟩
          rw [← hF] at hacc
          have hF' : F = 1000000000 := hF
          simp (disch := omega) only [gd_t, bd_s, nm_W, nm_I, I_add, I_sub, I_mul, I_neg, I_le_t, I_le_f, I_lt_t, I_lt_f, I_eq_t, I_eq_f, I_inb', I_ix', Int.toNat_natCast, decide_true, decide_false, Bool.not_false, Bool.not_true, if_true, if_false, wi_eq, wi_eq', wi_ne, wi_row, wi_2, N0, N1, N2, N3, N4, N5, N6, N7, N8, N9, N10, N11, N12, N13, N14, N15, N16, N17, N18, N19, N20, N21, N22, N23, N24, N25, N26, N27, N28, N29, N30, N31, N32, N33, N34, N35, N36, N37, N38, N39, N40, N41, N42, N43, N45, N48, N57, N59, N88, N89, N97, N99, N120, N121, N122, N179, N200, N255, N300, N400, N880, N900, N999, N1019, N50000000, N100000000, N1000000000, N2147483647, N2147483648, t1, he, hacc, enc, f_X1_fewestVenues_121]
        | some y =>
          have yb := ha y rfl
          have c : ¬ y ≤ x + 1 := c
          simp (disch := omega) only [gd_t, bd_s, nm_W, nm_I, I_add, I_sub, I_mul, I_neg, I_le_t, I_le_f, I_lt_t, I_lt_f, I_eq_t, I_eq_f, I_inb', I_ix', Int.toNat_natCast, decide_true, decide_false, Bool.not_false, Bool.not_true, if_true, if_false, wi_eq, wi_eq', wi_ne, wi_row, wi_2, N0, N1, N2, N3, N4, N5, N6, N7, N8, N9, N10, N11, N12, N13, N14, N15, N16, N17, N18, N19, N20, N21, N22, N23, N24, N25, N26, N27, N28, N29, N30, N31, N32, N33, N34, N35, N36, N37, N38, N39, N40, N41, N42, N43, N45, N48, N57, N59, N88, N89, N97, N99, N120, N121, N122, N179, N200, N255, N300, N400, N880, N900, N999, N1019, N50000000, N100000000, N1000000000, N2147483647, N2147483648, t1, he, hacc, enc, f_X1_fewestVenues_121]
/-- the class: one venue -/
theorem c_fw2 {m V q v : Nat} {p : Int} {d : MD} {k31 : Int32 → Int32 → Wd → Option (Int32 × Wd)} (hd : MDok d V) (hv : v < V) (hq : q ≤ 120) :
    ∀ (u n : Nat) (z : Int) (σ : Wd), z = (u : Int) → u ≤ q → u < n → (∀ w, w ≤ u → σ.1 9 w = I (enc 1000000000 (fw d p v w))) → (∀ w, u < w → w ≤ q → σ.1 9 w = I (enc 1000000000 (fw d p (v + 1) w))) →
      ∃ σ', f_X1_fewestVenues_57 m k31 n (I (q : Int)) (I (v : Int)) (I (d.lo v)) (I (rm d p (-1) q v : Int)) (I z) σ = k31 (I (q : Int)) (I ((v : Int) + 1)) σ'
        ∧ (∀ w, w ≤ q → σ'.1 9 w = I (enc 1000000000 (fw d p (v + 1) w))) ∧ (∀ k, k ≠ 9 → σ'.1 k = σ.1 k) ∧ σ'.2 = σ.2
  | 0, n + 1, z, σ, hz, _, _, h1, h2 => by
    have h5 := hd.1
    refine ⟨σ, ?_, fun w hw => ?_, fun _ _ => rfl, rfl⟩
    · rw [f_X1_fewestVenues_57]
      simp (disch := omega) only [gd_t, bd_s, nm_W, nm_I, I_add, I_sub, I_mul, I_neg, I_le_t, I_le_f, I_lt_t, I_lt_f, I_eq_t, I_eq_f, I_inb', I_ix', Int.toNat_natCast, decide_true, decide_false, Bool.not_false, Bool.not_true, if_true, if_false, wi_eq, wi_eq', wi_ne, wi_row, wi_2, N0, N1, N2, N3, N4, N5, N6, N7, N8, N9, N10, N11, N12, N13, N14, N15, N16, N17, N18, N19, N20, N21, N22, N23, N24, N25, N26, N27, N28, N29, N30, N31, N32, N33, N34, N35, N36, N37, N38, N39, N40, N41, N42, N43, N45, N48, N57, N59, N88, N89, N97, N99, N120, N121, N122, N179, N200, N255, N300, N400, N880, N900, N999, N1019, N50000000, N100000000, N1000000000, N2147483647, N2147483648]
    · by_cases c : w = 0
      · subst c
        rw [h1 0 (by omega), fw_0, fw_0]
      · exact h2 w (by omega) hw
  | u + 1, n + 1, z, σ, hz, hu, hn, h1, h2 => by
    have h5 := hd.1
    obtain ⟨-, lb, -⟩ := hd.2 v hv
    have rb := rm_le (p := p) (but := -1) (q := q) hd hv
    have km := kx_min (p := p) (but := -1) hd hv hu
    have kb := kx_le (p := p) (but := -1) (u := u + 1) hd hv
    have kb2 : kx d p (-1) v (u + 1) ≤ kx d p (-1) v (u + 1) * (d.lo v).toNat := Nat.le_mul_of_pos_right _ (by omega)
    obtain ⟨τ, t1, t2, t3, t4, t5⟩ := c_fw1 (m := m) (V := V) (q := q) (v := v) (u := u + 1) (l := (d.lo v).toNat) (K := kx d p (-1) v (u + 1)) (room := rm d p (-1) q v) (g := fw d p v) (k31 := k31) (k57 := f_X1_fewestVenues_57 m k31 n) hv h5 (by omega) (by omega) (by omega) (by omega) (by omega) km (fun w => OB_mono (by omega) (fw_OB v w))
      (kx d p (-1) v (u + 1)) 1 FU (d.lo v) (fw d p v (u + 1)) σ (by rw [Nat.one_mul]; omega) (by omega) (by omega) (by show _ < 6000; omega) (OB_mono (by omega) (fw_OB v (u + 1))) (h1 (u + 1) (Nat.le_refl _)) (fun w hw => h1 w (by omega))
    rw [show fw d p v (u + 1) = mnf (fF (fw d p v) (u + 1) (d.lo v).toNat) 0 from by show _ = fF _ _ _ 0; unfold fF; rw [if_pos rfl], amn_eq, Nat.zero_add] at t2
    obtain ⟨σ', q1, q2, q3, q4⟩ := c_fw2 (m := m) (k31 := k31) hd hv hq u n (z - 1) τ (by omega) (by omega) (by omega)
      (fun w hw => by rw [t3 w (by omega)]; exact h1 w (by omega))
      (fun w g1 g2 => by
        by_cases c : w = u + 1
        · subst c; exact t2
        · rw [t3 w c]; exact h2 w (by omega) g2)
    refine ⟨σ', ?_, q2, fun k hk => by rw [q3 k hk, t4 k hk], by rw [q4, t5]⟩
    rw [show (((d.lo v).toNat : Nat) : Int) = d.lo v from by omega, ← hz] at t1
    rw [← q1, ← t1, f_X1_fewestVenues_57]
    simp (disch := omega) only [gd_t, bd_s, nm_W, nm_I, I_add, I_sub, I_mul, I_neg, I_le_t, I_le_f, I_lt_t, I_lt_f, I_eq_t, I_eq_f, I_inb', I_ix', Int.toNat_natCast, decide_true, decide_false, Bool.not_false, Bool.not_true, if_true, if_false, wi_eq, wi_eq', wi_ne, wi_row, wi_2, N0, N1, N2, N3, N4, N5, N6, N7, N8, N9, N10, N11, N12, N13, N14, N15, N16, N17, N18, N19, N20, N21, N22, N23, N24, N25, N26, N27, N28, N29, N30, N31, N32, N33, N34, N35, N36, N37, N38, N39, N40, N41, N42, N43, N45, N48, N57, N59, N88, N89, N97, N99, N120, N121, N122, N179, N200, N255, N300, N400, N880, N900, N999, N1019, N50000000, N100000000, N1000000000, N2147483647, N2147483648]
theorem c_fw3 {m V q : Nat} {p : Int} {d : MD} (hm : 10 < m) (hd : MDok d V) (hp : R p) (hq : q ≤ 120) :
    ∀ (r v n : Nat) (z : Int) (σ : Wd), z = (v : Int) → v + r = V → r < n → CV m σ V d → σ.1 m 1 = I p → (∀ w, w ≤ q → σ.1 9 w = I (enc 1000000000 (fw d p v w))) →
      ∃ σ', f_X1_fewestVenues_31 m n (I (q : Int)) (I z) σ = some (I (enc 1000000000 (fw d p V (bu (fw d p V) q))), σ') ∧ (∀ k, k ≠ 9 → σ'.1 k = σ.1 k) ∧ σ'.2 = σ.2
  | 0, v, n + 1, z, σ, hz, hv, _, h, hl, hw => by
    have h5 := hd.1
    have hv : v = V := by omega
    subst hv
    have e := mostU (σ := σ) (q0 := 9) (l0 := 121) (f := fw d p v) (by decide) (by decide) q FU (q : Int) rfl (by show _ < 6000; omega) hq (fun w h1 => ⟨hw w h1, OB_mono (by omega) (fw_OB v w)⟩)
    have bl := bu_le (f := fw d p v) q
    refine ⟨σ, ?_, fun _ _ => rfl, rfl⟩
    rw [f_X1_fewestVenues_31]
    unfold f_X1_mostUnits
    simp (disch := omega) only [gd_t, bd_s, nm_W, nm_I, I_add, I_sub, I_mul, I_neg, I_le_t, I_le_f, I_lt_t, I_lt_f, I_eq_t, I_eq_f, I_inb', I_ix', Int.toNat_natCast, decide_true, decide_false, Bool.not_false, Bool.not_true, if_true, if_false, wi_eq, wi_eq', wi_ne, wi_row, wi_2, N0, N1, N2, N3, N4, N5, N6, N7, N8, N9, N10, N11, N12, N13, N14, N15, N16, N17, N18, N19, N20, N21, N22, N23, N24, N25, N26, N27, N28, N29, N30, N31, N32, N33, N34, N35, N36, N37, N38, N39, N40, N41, N42, N43, N45, N48, N57, N59, N88, N89, N97, N99, N120, N121, N122, N179, N200, N255, N300, N400, N880, N900, N999, N1019, N50000000, N100000000, N1000000000, N2147483647, N2147483648, h.1, e, hw _ bl]
  | r + 1, v, n + 1, z, σ, hz, hv, hn, h, hl, hw => by
    subst hz
    have h5 := hd.1
    have hvV : v < V := by omega
    obtain ⟨τ, t1, t2, t3, t4⟩ := c_fw2 (m := m) (p := p) (k31 := f_X1_fewestVenues_31 m n) hd hvV hq q FU (q : Int) σ rfl (Nat.le_refl _) (by show _ < 6000; omega) hw (fun w g1 g2 => absurd g1 (by omega))
    obtain ⟨σ', q1, q2, q3⟩ := c_fw3 hm hd hp hq r (v + 1) n ((v : Int) + 1) τ (by omega) (by omega) (by omega) (CV_congr h (fun k hk => t3 k (by omega))) (by rw [t3 m (by omega)]; exact hl) t2
    refine ⟨σ', ?_, fun k hk => by rw [q2 k hk, t3 k hk], by rw [q3, t4]⟩
    have er := kx_whl (u := q) (p := p) (but := -1) hd hvV
    rw [if_neg (by omega)] at er
    have e2 := cWhole h hd hvV hp hl (q := (q : Int)) (by omega) (by omega)
    rw [er] at e2
    rw [← q1, ← t1, f_X1_fewestVenues_31]
    simp (disch := omega) only [gd_t, bd_s, nm_W, nm_I, I_add, I_sub, I_mul, I_neg, I_le_t, I_le_f, I_lt_t, I_lt_f, I_eq_t, I_eq_f, I_inb', I_ix', Int.toNat_natCast, decide_true, decide_false, Bool.not_false, Bool.not_true, if_true, if_false, wi_eq, wi_eq', wi_ne, wi_row, wi_2, N0, N1, N2, N3, N4, N5, N6, N7, N8, N9, N10, N11, N12, N13, N14, N15, N16, N17, N18, N19, N20, N21, N22, N23, N24, N25, N26, N27, N28, N29, N30, N31, N32, N33, N34, N35, N36, N37, N38, N39, N40, N41, N42, N43, N45, N48, N57, N59, N88, N89, N97, N99, N120, N121, N122, N179, N200, N255, N300, N400, N880, N900, N999, N1019, N50000000, N100000000, N1000000000, N2147483647, N2147483648, h.1, cLot h hd hvV, e2]
    rfl
theorem c_fw4 {m V q : Nat} {p : Int} {d : MD} (hm : 10 < m) (hd : MDok d V) (hp : R p) (hq : q ≤ 120) :
    ∀ (r u n : Nat) (z : Int) (σ : Wd), z = (u : Int) → u + r = q + 1 → r < n → CV m σ V d → σ.1 m 1 = I p → (∀ w, w < u → σ.1 9 w = I (enc 1000000000 (fw d p 0 w))) →
      ∃ σ', f_X1_fewestVenues_2 m n (I (q : Int)) (I z) σ = some (I (enc 1000000000 (fw d p V (bu (fw d p V) q))), σ') ∧ (∀ k, k ≠ 9 → σ'.1 k = σ.1 k) ∧ σ'.2 = σ.2
  | 0, u, n + 1, z, σ, hz, hu, _, h, hl, hw => by
    have h5 := hd.1
    obtain ⟨σ', q1, q2, q3⟩ := c_fw3 (q := q) hm hd hp hq V 0 FU 0 σ rfl (by omega) (by show _ < 6000; omega) h hl (fun w h1 => hw w (by omega))
    refine ⟨σ', ?_, q2, q3⟩
    rw [← q1, f_X1_fewestVenues_2]
    simp (disch := omega) only [gd_t, bd_s, nm_W, nm_I, I_add, I_sub, I_mul, I_neg, I_le_t, I_le_f, I_lt_t, I_lt_f, I_eq_t, I_eq_f, I_inb', I_ix', Int.toNat_natCast, decide_true, decide_false, Bool.not_false, Bool.not_true, if_true, if_false, wi_eq, wi_eq', wi_ne, wi_row, wi_2, N0, N1, N2, N3, N4, N5, N6, N7, N8, N9, N10, N11, N12, N13, N14, N15, N16, N17, N18, N19, N20, N21, N22, N23, N24, N25, N26, N27, N28, N29, N30, N31, N32, N33, N34, N35, N36, N37, N38, N39, N40, N41, N42, N43, N45, N48, N57, N59, N88, N89, N97, N99, N120, N121, N122, N179, N200, N255, N300, N400, N880, N900, N999, N1019, N50000000, N100000000, N1000000000, N2147483647, N2147483648]
  | r + 1, u, n + 1, z, σ, hz, hu, hn, h, hl, hw => by
    have tz : z.toNat = u := by omega
    obtain ⟨σ', q1, q2, q3⟩ := c_fw4 hm hd hp hq r (u + 1) n (z + 1) (wi σ 9 u (I (enc 1000000000 (fw d p 0 u)))) (by omega) (by omega) (by omega) (CV_congr h (fun k hk => wi_row (by omega))) (by rw [wi_row (by omega)]; exact hl)
      (fun w h1 => by
        by_cases c : w = u
        · subst c; rw [wi_eq]
        · rw [wi_ne c]; exact hw w (by omega))
    refine ⟨σ', ?_, fun k hk => by rw [q2 k hk, wi_row hk], by rw [q3, wi_2]⟩
    rw [← q1, f_X1_fewestVenues_2]
    by_cases c : u = 0
    · rw [show fw d p 0 u = some 0 from by unfold fw; rw [if_pos c]]
      simp (disch := omega) only [gd_t, bd_s, nm_W, nm_I, I_add, I_sub, I_mul, I_neg, I_le_t, I_le_f, I_lt_t, I_lt_f, I_eq_t, I_eq_f, I_inb', I_ix', Int.toNat_natCast, decide_true, decide_false, Bool.not_false, Bool.not_true, if_true, if_false, wi_eq, wi_eq', wi_ne, wi_row, wi_2, N0, N1, N2, N3, N4, N5, N6, N7, N8, N9, N10, N11, N12, N13, N14, N15, N16, N17, N18, N19, N20, N21, N22, N23, N24, N25, N26, N27, N28, N29, N30, N31, N32, N33, N34, N35, N36, N37, N38, N39, N40, N41, N42, N43, N45, N48, N57, N59, N88, N89, N97, N99, N120, N121, N122, N179, N200, N255, N300, N400, N880, N900, N999, N1019, N50000000, N100000000, N1000000000, N2147483647, N2147483648, f_X1_fewestVenues_22, tz, enc]
    · rw [show fw d p 0 u = none from by unfold fw; rw [if_neg c]]
      simp (disch := omega) only [gd_t, bd_s, nm_W, nm_I, I_add, I_sub, I_mul, I_neg, I_le_t, I_le_f, I_lt_t, I_lt_f, I_eq_t, I_eq_f, I_inb', I_ix', Int.toNat_natCast, decide_true, decide_false, Bool.not_false, Bool.not_true, if_true, if_false, wi_eq, wi_eq', wi_ne, wi_row, wi_2, N0, N1, N2, N3, N4, N5, N6, N7, N8, N9, N10, N11, N12, N13, N14, N15, N16, N17, N18, N19, N20, N21, N22, N23, N24, N25, N26, N27, N28, N29, N30, N31, N32, N33, N34, N35, N36, N37, N38, N39, N40, N41, N42, N43, N45, N48, N57, N59, N88, N89, N97, N99, N120, N121, N122, N179, N200, N255, N300, N400, N880, N900, N999, N1019, N50000000, N100000000, N1000000000, N2147483647, N2147483648, f_X1_fewestVenues_22, tz, enc]
theorem cFewest {m : Nat} {σ : Wd} {V q : Nat} {p : Int} {d : MD} (hm : 10 < m) (hd : MDok d V) (hp : R p) (hq : q ≤ 120) (h : CV m σ V d) (hl : σ.1 m 1 = I p) :
    ∃ σ', f_X1_fewestVenues m (I (q : Int)) σ = some (I (enc 1000000000 (fw d p V (bu (fw d p V) q))), σ') ∧ (∀ k, k ≠ 9 → σ'.1 k = σ.1 k) ∧ σ'.2 = σ.2 :=
  c_fw4 hm hd hp hq (q + 1) 0 FU 0 σ rfl (by omega) (by show _ < 6000; omega) h hl (fun w hw => absurd hw (by omega))

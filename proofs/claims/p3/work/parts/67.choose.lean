/-! PURE: the class' shares; the class' best split, whole -/
def lu (f : Nat → Option Int) (t : Option Int) : Nat → Nat
  | 0 => 0
  | i + 1 => lst f t i
theorem c_mal {σ : Wd} {v u l K M : Nat} {c : Nat → Int} {g : Nat → Option Int} {y : Int} (hv : v < 5) (hu : u ≤ 120) (hl : 1 ≤ l) (hl2 : l ≤ 20) (hK : K * l ≤ M) (hM : M < K * l + l) (hMu : M ≤ u)
    (hc : ∀ i, i ≤ K → σ.1 7 (121 * v + i * l) = I (c i)) (hcb : ∀ i, i ≤ K → -10000000 ≤ c i ∧ c i ≤ 10000000)
    (hg : ∀ i, i ≤ K → σ.1 8 (121 * (v + 1) + u - i * l) = I (enc 1000000000 (g i))) (hgb : ∀ i, i ≤ K → OB 10000000 (g i))
    (ht : σ.1 8 (121 * v + u) = I y) (hy : -20000000 ≤ y ∧ y ≤ 20000000) :
    ∀ (r i n : Nat) (z4 z6 : Int), z4 = ((lu (fun i => oadd (c i) (g i)) (some y) i * l : Nat) : Int) → z6 = ((i * l : Nat) : Int) → r < n → i + r = K + 1 →
      f_X1_mostAtLeastCost_28 n (I (v : Int)) (I (u : Int)) (I (l : Int)) (I z4) (I (M : Int)) (I z6) σ = some (I ((lst (fun i => oadd (c i) (g i)) (some y) K * l : Nat) : Int), σ)
  | 0, i, n + 1, z4, z6, h4, h6, _, hi => by
    have hi : i = K + 1 := by omega
    subst hi
    have e : (K + 1) * l = K * l + l := Nat.succ_mul K l
    rw [f_X1_mostAtLeastCost_28]
    simp (disch := omega) only [gd_t, bd_s, nm_W, nm_I, I_add, I_sub, I_mul, I_neg, I_le_t, I_le_f, I_lt_t, I_lt_f, I_eq_t, I_eq_f, I_inb', I_ix', Int.toNat_natCast, decide_true, decide_false, Bool.not_false, Bool.not_true, if_true, if_false, wi_eq, wi_eq', wi_ne, wi_row, wi_2, N0, N1, N2, N3, N4, N5, N6, N7, N8, N9, N10, N11, N12, N13, N14, N15, N16, N17, N18, N19, N20, N21, N22, N23, N24, N25, N26, N27, N28, N29, N30, N31, N32, N33, N34, N35, N36, N37, N38, N39, N40, N41, N42, N43, N45, N48, N57, N59, N88, N89, N97, N99, N120, N121, N122, N179, N200, N255, N300, N400, N880, N900, N999, N1019, N50000000, N100000000, N1000000000, N2147483647, N2147483648]
    rw [h4]
    rfl
  | r + 1, i, n + 1, z4, z6, h4, h6, hn, hi => by
    have hiK : i ≤ K := by omega
    have m1 : i * l ≤ K * l := Nat.mul_le_mul_right l hiK
    have e : (i + 1) * l = i * l + l := Nat.succ_mul i l
    have t1 : (((v : Int) + 1) * 121 + (u : Int) - z6).toNat = 121 * (v + 1) + u - i * l := by omega
    have t2 : ((v : Int) * 121 + z6).toNat = 121 * v + i * l := by omega
    have t3 : ((v : Int) * 121 + (u : Int)).toNat = 121 * v + u := by omega
    have gb := hgb i hiK
    have cb := hcb i hiK
    have keep : oadd (c i) (g i) ≠ some y → z4 = ((lu (fun i => oadd (c i) (g i)) (some y) (i + 1) * l : Nat) : Int) := by
      intro hne
      rw [h4]
      cases i with
      | zero => rfl
      | succ i => rw [lu, lu, lst, if_neg hne]
    have ih := fun z4 (h : z4 = ((lu (fun i => oadd (c i) (g i)) (some y) (i + 1) * l : Nat) : Int)) => c_mal hv hu hl hl2 hK hM hMu hc hcb hg hgb ht hy r (i + 1) n z4 (z6 + (l : Int)) h (by omega) (by omega) (by omega)
    rw [f_X1_mostAtLeastCost_28]
    cases hgi : g i with
    | none =>
      have hge := hg i hiK
      rw [hgi] at hge
      obtain ⟨F, hF⟩ : ∃ F : Int, F = enc 1000000000 none := ⟨_, rfl⟩
      rw [← hF] at hge
      have hF : F = 1000000000 := hF
      simp (disch := omega) only [gd_t, bd_s, nm_W, nm_I, I_add, I_sub, I_mul, I_neg, I_le_t, I_le_f, I_lt_t, I_lt_f, I_eq_t, I_eq_f, I_inb', I_ix', Int.toNat_natCast, decide_true, decide_false, Bool.not_false, Bool.not_true, if_true, if_false, wi_eq, wi_eq', wi_ne, wi_row, wi_2, N0, N1, N2, N3, N4, N5, N6, N7, N8, N9, N10, N11, N12, N13, N14, N15, N16, N17, N18, N19, N20, N21, N22, N23, N24, N25, N26, N27, N28, N29, N30, N31, N32, N33, N34, N35, N36, N37, N38, N39, N40, N41, N42, N43, N45, N48, N57, N59, N88, N89, N97, N99, N120, N121, N122, N179, N200, N255, N300, N400, N880, N900, N999, N1019, N50000000, N100000000, N1000000000, N2147483647, N2147483648, t1, hge, f_X1_mostAtLeastCost_93]
      exact ih z4 (keep (by rw [hgi]; exact fun h => by cases h))
    | some w =>
      have hge := hg i hiK
      rw [hgi] at hge
      have wb := gb w hgi
      by_cases c0 : c i + w = y
      · simp (disch := omega) only [gd_t, bd_s, nm_W, nm_I, I_add, I_sub, I_mul, I_neg, I_le_t, I_le_f, I_lt_t, I_lt_f, I_eq_t, I_eq_f, I_inb', I_ix', Int.toNat_natCast, decide_true, decide_false, Bool.not_false, Bool.not_true, if_true, if_false, wi_eq, wi_eq', wi_ne, wi_row, wi_2, N0, N1, N2, N3, N4, N5, N6, N7, N8, N9, N10, N11, N12, N13, N14, N15, N16, N17, N18, N19, N20, N21, N22, N23, N24, N25, N26, N27, N28, N29, N30, N31, N32, N33, N34, N35, N36, N37, N38, N39, N40, N41, N42, N43, N45, N48, N57, N59, N88, N89, N97, N99, N120, N121, N122, N179, N200, N255, N300, N400, N880, N900, N999, N1019, N50000000, N100000000, N1000000000, N2147483647, N2147483648, t1, t2, t3, hge, hc i hiK, ht, enc, f_X1_mostAtLeastCost_93]
        refine ih z6 ?_
        rw [h6]
        cases i with
        | zero => rw [Nat.zero_mul, lu, lst, Nat.zero_mul]
        | succ i =>
          rw [lu, lst, if_pos]
          show oadd (c (i + 1)) (g (i + 1)) = some y
          rw [hgi, ← c0]
          rfl
      · simp (disch := omega) only [gd_t, bd_s, nm_W, nm_I, I_add, I_sub, I_mul, I_neg, I_le_t, I_le_f, I_lt_t, I_lt_f, I_eq_t, I_eq_f, I_inb', I_ix', Int.toNat_natCast, decide_true, decide_false, Bool.not_false, Bool.not_true, if_true, if_false, wi_eq, wi_eq', wi_ne, wi_row, wi_2, N0, N1, N2, N3, N4, N5, N6, N7, N8, N9, N10, N11, N12, N13, N14, N15, N16, N17, N18, N19, N20, N21, N22, N23, N24, N25, N26, N27, N28, N29, N30, N31, N32, N33, N34, N35, N36, N37, N38, N39, N40, N41, N42, N43, N45, N48, N57, N59, N88, N89, N97, N99, N120, N121, N122, N179, N200, N255, N300, N400, N880, N900, N999, N1019, N50000000, N100000000, N1000000000, N2147483647, N2147483648, t1, t2, t3, hge, hc i hiK, ht, enc, f_X1_mostAtLeastCost_93]
        refine ih z4 (keep ?_)
        rw [hgi]
        intro q
        exact c0 (Option.some.inj q)
/-- one share of the class -/
theorem c_share {σ : Wd} {V j u q : Nat} {p but y : Int} {d : MD} (hd : MDok d V) (hj : j + 1 ≤ V) (hu : u ≤ q) (hq : q ≤ 120) (hr : PR d p but V q σ) (hy : lcs d p but V (j + 1) u = some y)
    (hg : ∀ w, w ≤ u → σ.1 8 (121 * (V - j) + w) = I (enc 1000000000 (lcs d p but V j w))) (ht : σ.1 8 (121 * (V - (j + 1)) + u) = I (enc 1000000000 (lcs d p but V (j + 1) u))) :
    f_X1_mostAtLeastCost (I ((V - (j + 1) : Nat) : Int)) (I (u : Int)) (I (d.lo (V - (j + 1)))) σ = some (I (sh1 d p but V j u : Int), σ) := by
  have hv : V - (j + 1) < V := by omega
  obtain ⟨-, lb, -⟩ := hd.2 _ hv
  have h5 := hd.1
  have km := kx_min (p := p) (but := but) hd hv hu
  rw [show kx d p but (V - (j + 1)) q * (d.lo (V - (j + 1))).toNat = rm d p but q (V - (j + 1)) from rfl] at km
  have rb := rm_le (p := p) (but := but) (q := q) hd hv
  have kq : kx d p but (V - (j + 1)) u ≤ kx d p but (V - (j + 1)) q := kx_mono hu
  have ku := kx_le (p := p) (but := but) (u := u) hd hv
  have yb := lcs_OB (p := p) (but := but) hd (j + 1) u hj (by omega) y hy
  obtain ⟨k1, k2⟩ := div_box (M := min u (rm d p but q (V - (j + 1)))) (show 1 ≤ (d.lo (V - (j + 1))).toNat by omega)
  rw [km] at k1 k2
  have kK : kx d p but (V - (j + 1)) u ≤ kx d p but (V - (j + 1)) u * (d.lo (V - (j + 1))).toNat := Nat.le_mul_of_pos_right _ (by omega)
  rw [hy] at ht
  have hm := (hr _ hv).1
  have key := c_mal (σ := σ) (v := V - (j + 1)) (u := u) (l := (d.lo (V - (j + 1))).toNat) (K := kx d p but (V - (j + 1)) u) (M := min u (rm d p but q (V - (j + 1)))) (y := y) (c := fun i => cst d (V - (j + 1)) ((i * (d.lo (V - (j + 1))).toNat : Nat) : Int)) (g := fun i => lcs d p but V j (u - i * (d.lo (V - (j + 1))).toNat))
    (by omega) (by omega) (by omega) (by omega) k1 k2 (by omega)
    (fun i hi => (hr _ hv).2 i (by omega))
    (fun i hi => by
      have k2 : i * (d.lo (V - (j + 1))).toNat ≤ kx d p but (V - (j + 1)) u * (d.lo (V - (j + 1))).toNat := Nat.mul_le_mul_right _ hi
      have := cst_bnd (n := ((i * (d.lo (V - (j + 1))).toNat : Nat) : Int)) hd hv (by omega) (by omega)
      show -10000000 ≤ cst d (V - (j + 1)) ((i * (d.lo (V - (j + 1))).toNat : Nat) : Int) ∧ cst d (V - (j + 1)) ((i * (d.lo (V - (j + 1))).toNat : Nat) : Int) ≤ 10000000
      omega)
    (fun i hi => by
      have k2 : i * (d.lo (V - (j + 1))).toNat ≤ kx d p but (V - (j + 1)) u * (d.lo (V - (j + 1))).toNat := Nat.mul_le_mul_right _ hi
      rw [show 121 * (V - (j + 1) + 1) + u - i * (d.lo (V - (j + 1))).toNat = 121 * (V - j) + (u - i * (d.lo (V - (j + 1))).toNat) from by omega]
      exact hg _ (by omega))
    (fun i hi => OB_mono (by omega) (lcs_OB hd j _ (by omega) (by omega)))
    ht (by omega) (kx d p but (V - (j + 1)) u + 1) 0 FU 0 0 (by rw [lu, Nat.zero_mul]; rfl) (by rw [Nat.zero_mul]; rfl) (by show _ < 6000; omega) (by omega)
  rw [show (((d.lo (V - (j + 1))).toNat : Nat) : Int) = d.lo (V - (j + 1)) from by omega] at key
  have es : sh1 d p but V j u = lst (fun i => oadd (cst d (V - (j + 1)) ((i * (d.lo (V - (j + 1))).toNat : Nat) : Int)) (lcs d p but V j (u - i * (d.lo (V - (j + 1))).toNat))) (some y) (kx d p but (V - (j + 1)) u) * (d.lo (V - (j + 1))).toNat := by
    unfold sh1; rw [hy]
  rw [es]
  unfold f_X1_mostAtLeastCost
  by_cases c : u ≤ rm d p but q (V - (j + 1))
  · rw [show min u (rm d p but q (V - (j + 1))) = u from by omega] at key
    rw [← key]
    simp (disch := omega) only [gd_t, bd_s, nm_W, nm_I, I_add, I_sub, I_mul, I_neg, I_le_t, I_le_f, I_lt_t, I_lt_f, I_eq_t, I_eq_f, I_inb', I_ix', Int.toNat_natCast, decide_true, decide_false, Bool.not_false, Bool.not_true, if_true, if_false, wi_eq, wi_eq', wi_ne, wi_row, wi_2, N0, N1, N2, N3, N4, N5, N6, N7, N8, N9, N10, N11, N12, N13, N14, N15, N16, N17, N18, N19, N20, N21, N22, N23, N24, N25, N26, N27, N28, N29, N30, N31, N32, N33, N34, N35, N36, N37, N38, N39, N40, N41, N42, N43, N45, N48, N57, N59, N88, N89, N97, N99, N120, N121, N122, N179, N200, N255, N300, N400, N880, N900, N999, N1019, N50000000, N100000000, N1000000000, N2147483647, N2147483648, hm, f_X1_mostAtLeastCost_23]
  · rw [show min u (rm d p but q (V - (j + 1))) = rm d p but q (V - (j + 1)) from by omega] at key
    rw [← key]
    simp (disch := omega) only [gd_t, bd_s, nm_W, nm_I, I_add, I_sub, I_mul, I_neg, I_le_t, I_le_f, I_lt_t, I_lt_f, I_eq_t, I_eq_f, I_inb', I_ix', Int.toNat_natCast, decide_true, decide_false, Bool.not_false, Bool.not_true, if_true, if_false, wi_eq, wi_eq', wi_ne, wi_row, wi_2, N0, N1, N2, N3, N4, N5, N6, N7, N8, N9, N10, N11, N12, N13, N14, N15, N16, N17, N18, N19, N20, N21, N22, N23, N24, N25, N26, N27, N28, N29, N30, N31, N32, N33, N34, N35, N36, N37, N38, N39, N40, N41, N42, N43, N45, N48, N57, N59, N88, N89, N97, N99, N120, N121, N122, N179, N200, N255, N300, N400, N880, N900, N999, N1019, N50000000, N100000000, N1000000000, N2147483647, N2147483648, hm, f_X1_mostAtLeastCost_23]
theorem c_deal {m V q M : Nat} {p but : Int} {d : MD} (hm : 10 < m) (hd : MDok d V) (hq : q ≤ 120) (hM : M ≤ q) :
    ∀ (j n u : Nat) (σ : Wd), j < n → j ≤ V → u ≤ M → lcs d p but V j u ≠ none → CV m σ V d → PR d p but V q σ →
      (∀ i, i ≤ V → ∀ w, w ≤ M → σ.1 8 (121 * (V - i) + w) = I (enc 1000000000 (lcs d p but V i w))) →
      ∃ σ', f_X1_deal_7 m n (I (u : Int)) (I ((V - j : Nat) : Int)) σ = some (0, σ')
        ∧ (∀ k, k ≠ 5 → σ'.1 k = σ.1 k) ∧ σ'.2 = σ.2
        ∧ (∀ v, V - j ≤ v → v < V → σ'.1 5 v = I (shs d p but V j u v : Int)) ∧ (∀ v, v < V - j → σ'.1 5 v = σ.1 5 v)
  | 0, n + 1, u, σ, hn, hj, hu, hs, h, hr, hg => by
    have h5 := hd.1
    refine ⟨σ, ?_, fun _ _ => rfl, rfl, fun v h1 h2 => absurd h2 (by omega), fun _ _ => rfl⟩
    rw [f_X1_deal_7]
    simp (disch := omega) only [gd_t, bd_s, nm_W, nm_I, I_add, I_sub, I_mul, I_neg, I_le_t, I_le_f, I_lt_t, I_lt_f, I_eq_t, I_eq_f, I_inb', I_ix', Int.toNat_natCast, decide_true, decide_false, Bool.not_false, Bool.not_true, if_true, if_false, wi_eq, wi_eq', wi_ne, wi_row, wi_2, N0, N1, N2, N3, N4, N5, N6, N7, N8, N9, N10, N11, N12, N13, N14, N15, N16, N17, N18, N19, N20, N21, N22, N23, N24, N25, N26, N27, N28, N29, N30, N31, N32, N33, N34, N35, N36, N37, N38, N39, N40, N41, N42, N43, N45, N48, N57, N59, N88, N89, N97, N99, N120, N121, N122, N179, N200, N255, N300, N400, N880, N900, N999, N1019, N50000000, N100000000, N1000000000, N2147483647, N2147483648, h.1]
  | j + 1, n + 1, u, σ, hn, hj, hu, hs, h, hr, hg => by
    have h5 := hd.1
    have hv : V - (j + 1) < V := by omega
    obtain ⟨-, lb, -⟩ := hd.2 _ hv
    have k1 := kx_le (p := p) (but := but) (u := u) hd hv
    obtain ⟨y, hy⟩ := Option.ne_none_iff_exists'.mp hs
    have at1 := mnf_at (show mnf _ _ = some y from hy)
    have hl1 := lst_le (f := fun i => oadd (cst d (V - (j + 1)) ((i * (d.lo (V - (j + 1))).toNat : Nat) : Int)) (lcs d p but V j (u - i * (d.lo (V - (j + 1))).toNat))) (t := some y) (kx d p but (V - (j + 1)) u)
    have hl2 := lst_at _ at1
    have es : sh1 d p but V j u = lst (fun i => oadd (cst d (V - (j + 1)) ((i * (d.lo (V - (j + 1))).toNat : Nat) : Int)) (lcs d p but V j (u - i * (d.lo (V - (j + 1))).toNat))) (some y) (kx d p but (V - (j + 1)) u) * (d.lo (V - (j + 1))).toNat := by
      unfold sh1; rw [hy]
    have sn : lcs d p but V j (u - sh1 d p but V j u) ≠ none := by
      intro q
      rw [es] at q
      rw [q] at hl2
      cases hl2
    have sl : sh1 d p but V j u ≤ u := by
      rw [es]
      exact Nat.le_trans (Nat.mul_le_mul_right _ hl1) k1
    have e := c_share hd hj (show u ≤ q by omega) hq hr hy (fun w hw => hg j (by omega) w (by omega)) (hg (j + 1) hj u hu)
    obtain ⟨σ', q1, q2, q3, q4, q5⟩ := c_deal hm hd hq hM j n (u - sh1 d p but V j u) (wi σ 5 (V - (j + 1)) (I (sh1 d p but V j u : Int))) (by omega) (by omega) (by omega) sn
      (CV_congr h (fun k hk => wi_row (by omega))) (PR_congr hr (wi_row (by decide)) (wi_row (by decide)))
      (fun i hi w hw => by rw [wi_row (by decide)]; exact hg i hi w hw)
    refine ⟨σ', ?_, fun k hk => by rw [q2 k hk, wi_row hk], q3, fun v h1 h2 => ?_, fun v h1 => by rw [q5 v (by omega), wi_ne (by omega)]⟩
    · rw [← q1, f_X1_deal_7]
      simp (disch := omega) only [gd_t, bd_s, nm_W, nm_I, I_add, I_sub, I_mul, I_neg, I_le_t, I_le_f, I_lt_t, I_lt_f, I_eq_t, I_eq_f, I_inb', I_ix', Int.toNat_natCast, decide_true, decide_false, Bool.not_false, Bool.not_true, if_true, if_false, wi_eq, wi_eq', wi_ne, wi_row, wi_2, N0, N1, N2, N3, N4, N5, N6, N7, N8, N9, N10, N11, N12, N13, N14, N15, N16, N17, N18, N19, N20, N21, N22, N23, N24, N25, N26, N27, N28, N29, N30, N31, N32, N33, N34, N35, N36, N37, N38, N39, N40, N41, N42, N43, N45, N48, N57, N59, N88, N89, N97, N99, N120, N121, N122, N179, N200, N255, N300, N400, N880, N900, N999, N1019, N50000000, N100000000, N1000000000, N2147483647, N2147483648, h.1, cLot h hd hv, e]
      congr 2
      · omega
      · omega
    · unfold shs
      by_cases c : v = V - (j + 1)
      · rw [if_pos c, c, q5 _ (by omega), wi_eq]
      · rw [if_neg c]
        exact q4 v (by omega) h2
theorem cChoose {m V q : Nat} {p but : Int} {d : MD} {σ : Wd} (hm : 10 < m) (hd : MDok d V) (hp : R p) (hb : R but) (hq : q ≤ 120) (h : CV m σ V d) (hl : σ.1 m 1 = I p) :
    ∃ σ', f_X1_choose m (I (q : Int)) (I but) σ = some (0, σ') ∧ σ'.1 4 0 = I (bu (lcs d p but V V) q : Int)
      ∧ σ'.1 4 1 = I (enc 100000000 (lcs d p but V V (bu (lcs d p but V V) q)))
      ∧ (∀ v, v < V → σ'.1 5 v = I (shs d p but V V (bu (lcs d p but V V) q) v : Int))
      ∧ (∀ k, k < 4 ∨ 9 < k → σ'.1 k = σ.1 k) ∧ σ'.2 = σ.2 := by
  have h5 := hd.1
  obtain ⟨s1, a1, a2, a3, a4⟩ := cPrep (q := q) hm hd hp hb hq h hl
  obtain ⟨M, hM⟩ : ∃ M, M = min q (srm d p but q V 0) := ⟨_, rfl⟩
  rw [← hM] at a1
  have h1 : CV m s1 V d := CV_congr h (fun k hk => a2 k (by omega) (by omega))
  obtain ⟨s2, b1, b2, b3, b4⟩ := c_init (p := p) (but := but) (d := d) hm h5 (show M ≤ 120 by omega) (M + 1) 0 FU 0 s1 rfl (by show _ < 6000; omega) (by omega) h1.1 (fun w hw => absurd hw (by omega))
  have h2 : CV m s2 V d := CV_congr h1 (fun k hk => b2 k (by omega))
  have r2 : PR d p but V q s2 := PR_congr a4 (b2 6 (by decide)) (b2 7 (by decide))
  obtain ⟨s3, c1, c2, c3, c4⟩ := c_rows (p := p) (but := but) hm hd hq (show M ≤ q by omega) V 0 FU ((V : Int) - 1) s2 (by omega) (by show V < 6000; omega) (by omega) h2 r2 (fun i hi w hw => by
      have : i = 0 := by omega
      subst this
      exact b4 w hw)
  have h3 : CV m s3 V d := CV_congr h2 (fun k hk => c2 k (by omega))
  have r3 : PR d p but V q s3 := PR_congr r2 (c2 6 (by decide)) (c2 7 (by decide))
  have row : ∀ w, w ≤ M → s3.1 8 w = I (enc 1000000000 (lcs d p but V V w)) := fun w hw => by
    have := c4 V (Nat.le_refl _) w hw
    rw [show 121 * (V - V) + w = w from by omega] at this
    exact this
  have e1 := mostU (σ := s3) (q0 := 8) (l0 := 726) (f := lcs d p but V V) (by decide) (by decide) M FU (M : Int) rfl (by show _ < 6000; omega) (by omega)
    (fun w hw => ⟨row w hw, OB_mono (by omega) (lcs_OB hd V w (Nat.le_refl _) (by omega))⟩)
  have bc : bu (lcs d p but V V) q = bu (lcs d p but V V) M := bu_cut q (by omega) (fun u g1 g2 => by
    cases hu : lcs d p but V V u with
    | none => rfl
    | some y =>
      have := lcs_srm (q := q) (p := p) (but := but) hd V u (Nat.le_refl _) g2 (by rw [hu]; exact fun h => by cases h)
      rw [Nat.sub_self] at this
      omega)
  have ub : bu (lcs d p but V V) M ≤ M := bu_le M
  have un : lcs d p but V V (bu (lcs d p but V V) M) ≠ none := bu_some (by rw [lcs_0]; exact fun h => by cases h) M
  rw [bc]
  obtain ⟨U, hU⟩ : ∃ U, U = bu (lcs d p but V V) M := ⟨_, rfl⟩
  rw [← hU] at e1 ub un ⊢
  obtain ⟨y, hy⟩ := Option.ne_none_iff_exists'.mp un
  obtain ⟨s4, hs4⟩ : ∃ s, s = wi (wi s3 4 0 (I (U : Int))) 4 1 (I y) := ⟨_, rfl⟩
  have f4 : ∀ k, k ≠ 4 → s4.1 k = s3.1 k := fun k hk => by rw [hs4, wi_row hk, wi_row hk]
  obtain ⟨s5, d1, d2, d3, d4, d5⟩ := c_deal (p := p) (but := but) hm hd hq (show M ≤ q by omega) V FU U s4 (by show V < 6000; omega) (Nat.le_refl _) ub un
    (CV_congr h3 (fun k hk => f4 k (by omega))) (PR_congr r3 (f4 6 (by decide)) (f4 7 (by decide))) (fun i hi w hw => by rw [f4 8 (by decide)]; exact c4 i hi w hw)
  refine ⟨s5, ?_, ?_, ?_, fun v hv => d4 v (by omega) hv, fun k hk => ?_, ?_⟩
  · unfold f_X1_choose
    rw [a1, bd_s]
    show f_X1_choose_12 m FU (I (M : Int)) (I 0) s1 = _
    rw [b1, c1]
    unfold c_end f_X1_mostUnits
    rw [e1]
    have tu : (U : Int).toNat = U := rfl
    have ru := row U ub
    rw [hy] at ru
    simp (disch := omega) only [gd_t, bd_s, nm_W, nm_I, I_add, I_sub, I_mul, I_neg, I_le_t, I_le_f, I_lt_t, I_lt_f, I_eq_t, I_eq_f, I_inb', I_ix', Int.toNat_natCast, decide_true, decide_false, Bool.not_false, Bool.not_true, if_true, if_false, wi_eq, wi_eq', wi_ne, wi_row, wi_2, N0, N1, N2, N3, N4, N5, N6, N7, N8, N9, N10, N11, N12, N13, N14, N15, N16, N17, N18, N19, N20, N21, N22, N23, N24, N25, N26, N27, N28, N29, N30, N31, N32, N33, N34, N35, N36, N37, N38, N39, N40, N41, N42, N43, N45, N48, N57, N59, N88, N89, N97, N99, N120, N121, N122, N179, N200, N255, N300, N400, N880, N900, N999, N1019, N50000000, N100000000, N1000000000, N2147483647, N2147483648, tu, ru, enc]
    rw [← hs4]
    unfold f_X1_deal
    rw [show s4.1 4 0 = I (U : Int) from by rw [hs4, wi_ne (by decide), wi_eq], show (0 : Int32) = I ((V - V : Nat) : Int) from by rw [Nat.sub_self]; rfl, d1]
    rfl
  · rw [d2 4 (by decide), hs4, wi_ne (by decide), wi_eq]
  · rw [d2 4 (by decide), hs4, wi_eq, hy]
    rfl
  · rw [d2 k (by omega), f4 k (by omega), c2 k (by omega), b2 k (by omega), a2 k (by omega) (by omega)]
  · rw [d3, hs4, wi_2, wi_2, c3, b3, a3]

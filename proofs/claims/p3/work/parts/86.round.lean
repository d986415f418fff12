/-! PURE: a round begins -/
theorem pu_congr {f g : Nat → Int} : ∀ (r v : Nat), (∀ w, v ≤ w → w < v + r → f w = g w) → pu f r v = pu g r v
  | 0, _, _ => rfl
  | r + 1, v, h => by
    unfold pu
    rw [h v (Nat.le_refl _) (by omega), pu_congr r (v + 1) (fun w h1 h2 => h w (by omega) (by omega))]
theorem pu_ge {f : Nat → Int} {w : Nat} : ∀ (r v : Nat), (∀ w, v ≤ w → w < v + r → 0 ≤ f w) → v ≤ w → w < v + r → f w ≤ pu f r v ∧ 0 ≤ pu f r v
  | 0, v, _, h1, h2 => absurd h2 (by omega)
  | r + 1, v, h, h1, h2 => by
    have h0 := h v (Nat.le_refl _) (by omega)
    have key : 0 ≤ pu f r (v + 1) := pu_nn r (v + 1) (fun w h1 h2 => h w (by omega) (by omega))
    unfold pu
    by_cases c : w = v
    · subst c
      omega
    · have := pu_ge (w := w) r (v + 1) (fun w h1 h2 => h w (by omega) (by omega)) (by omega) (by omega)
      omega
where
  pu_nn {f : Nat → Int} : ∀ (r v : Nat), (∀ w, v ≤ w → w < v + r → 0 ≤ f w) → 0 ≤ pu f r v
  | 0, _, _ => Int.le_refl _
  | r + 1, v, h => by
    have h0 := h v (Nat.le_refl _) (by omega)
    have := pu_nn r (v + 1) (fun w h1 h2 => h w (by omega) (by omega))
    unfold pu
    omega
theorem shs_sum {d : MD} {V : Nat} {p but : Int} (hd : MDok d V) : ∀ (j u : Nat), j ≤ V → lcs d p but V j u ≠ none → pu (fun v => (shs d p but V j u v : Int)) j (V - j) = (u : Int)
  | 0, u, _, h => by
    unfold lcs at h
    by_cases c : u = 0
    · subst c; rfl
    · rw [if_neg c] at h
      exact absurd rfl h
  | j + 1, u, hj, hs => by
    have hv : V - (j + 1) < V := by omega
    have k1 := kx_le (p := p) (but := but) (u := u) hd hv
    obtain ⟨y, hy⟩ := Option.ne_none_iff_exists'.mp hs
    have at1 := mnf_at (show mnf _ _ = some y from hy)
    have hl1 := lst_le (f := fun i => oadd (cst d (V - (j + 1)) ((i * (d.lo (V - (j + 1))).toNat : Nat) : Int)) (lcs d p but V j (u - i * (d.lo (V - (j + 1))).toNat))) (t := some y) (kx d p but (V - (j + 1)) u)
    have hl2 := lst_at _ at1
    have es : sh1 d p but V j u = lst (fun i => oadd (cst d (V - (j + 1)) ((i * (d.lo (V - (j + 1))).toNat : Nat) : Int)) (lcs d p but V j (u - i * (d.lo (V - (j + 1))).toNat))) (some y) (kx d p but (V - (j + 1)) u) * (d.lo (V - (j + 1))).toNat := by
      unfold sh1; rw [hy]
    have sn : lcs d p but V j (u - sh1 d p but V j u) ≠ none := by
      intro q
      rw [es] at q
      rw [q] at hl2
      cases hl2
    have sl : sh1 d p but V j u ≤ u := by
      rw [es]
      exact Nat.le_trans (Nat.mul_le_mul_right _ hl1) k1
    have ih := shs_sum hd j _ (by omega) sn
    unfold pu
    rw [show V - (j + 1) + 1 = V - j from by omega, pu_congr (g := fun v => (shs d p but V j (u - sh1 d p but V j u) v : Int)) j (V - j) (fun w h1 h2 => by
      show ((shs d p but V (j + 1) u w : Nat) : Int) = _
      rw [shs, if_neg (by omega)]), ih]
    show ((shs d p but V (j + 1) u (V - (j + 1)) : Nat) : Int) + _ = _
    rw [shs, if_pos rfl]
    omega
theorem nu_all {f : Nat → Int32} : ∀ (r v : Nat), nu f r v = true → ∀ w, v ≤ w → w < v + r → f w = 0
  | 0, v, _, w, h1, h2 => absurd h2 (by omega)
  | r + 1, v, h, w, h1, h2 => by
    unfold nu at h
    by_cases c : f v = 0
    · rw [if_pos c] at h
      by_cases e : w = v
      · rw [e]; exact c
      · exact nu_all r (v + 1) h w (by omega) (by omega)
    · rw [if_neg c] at h
      cases h
def QPs (r : Nat) (σ τ : Wd) (V : Nat) (t : Int) (h n g : Nat → Int) : Prop := ∀ w, w < V → QP r σ τ t t w (h w) (n w) (g w)
theorem s85_skip {m r V v k : Nat} {σ : Wd} {bp : Bool} {c s : Int} (h3 : σ.1 m 3 = I (V : Int)) (hV : V ≤ 5) (hv : v < V) (hs : (if bp then σ.1 (m + 7) v else σ.1 5 v) = I s) (s0 : s = 0) : f_X4_startRound_85 r m (k + 1) (I (bn bp)) (I c) (I (v : Int)) σ = f_X4_startRound_85 r m k (I (bn bp)) (I c) (I ((v : Int) + 1)) σ := by
  rw [f_X4_startRound_85]
  cases bp with
  | true =>
    have hs : σ.1 (m + 7) v = I s := hs
    simp (disch := omega) only [gd_t, bd_s, nm_W, nm_I, I_add, I_sub, I_mul, I_neg, I_le_t, I_le_f, I_lt_t, I_lt_f, I_eq_t, I_eq_f, I_inb', I_ix', Int.toNat_natCast, decide_true, decide_false, Bool.not_false, Bool.not_true, if_true, if_false, wi_eq, wi_eq', wi_ne, wi_row, wi_2, N0, N1, N2, N3, N4, N5, N6, N7, N8, N9, N10, N11, N12, N13, N14, N15, N16, N17, N18, N19, N20, N21, N22, N23, N24, N25, N26, N27, N28, N29, N30, N31, N32, N33, N34, N35, N36, N37, N38, N39, N40, N41, N42, N43, N45, N48, N57, N59, N88, N89, N97, N99, N120, N121, N122, N179, N200, N255, N300, N400, N880, N900, N999, N1019, N50000000, N100000000, N1000000000, N2147483647, N2147483648, h3, bn_t, hs, f_X4_startRound_115, f_X4_startRound_134]
  | false =>
    have hs : σ.1 5 v = I s := hs
    simp (disch := omega) only [gd_t, bd_s, nm_W, nm_I, I_add, I_sub, I_mul, I_neg, I_le_t, I_le_f, I_lt_t, I_lt_f, I_eq_t, I_eq_f, I_inb', I_ix', Int.toNat_natCast, decide_true, decide_false, Bool.not_false, Bool.not_true, if_true, if_false, wi_eq, wi_eq', wi_ne, wi_row, wi_2, N0, N1, N2, N3, N4, N5, N6, N7, N8, N9, N10, N11, N12, N13, N14, N15, N16, N17, N18, N19, N20, N21, N22, N23, N24, N25, N26, N27, N28, N29, N30, N31, N32, N33, N34, N35, N36, N37, N38, N39, N40, N41, N42, N43, N45, N48, N57, N59, N88, N89, N97, N99, N120, N121, N122, N179, N200, N255, N300, N400, N880, N900, N999, N1019, N50000000, N100000000, N1000000000, N2147483647, N2147483648, h3, bn_f, hs, f_X4_startRound_115, f_X4_startRound_134]
theorem s85_send {m r V v k : Nat} {σ σ' : Wd} {bp : Bool} {c s : Int} (h3 : σ.1 m 3 = I (V : Int)) (hV : V ≤ 5) (hv : v < V) (hs : (if bp then σ.1 (m + 7) v else σ.1 5 v) = I s) (s0 : 0 < s) (s1 : s ≤ 120) (e : f_X4_send r m (I (v : Int)) (I s) σ = some (0, σ')) : f_X4_startRound_85 r m (k + 1) (I (bn bp)) (I c) (I (v : Int)) σ = f_X4_startRound_85 r m k (I (bn bp)) (I (c + 1)) (I ((v : Int) + 1)) σ' := by
  rw [f_X4_startRound_85]
  cases bp with
  | true =>
    have hs : σ.1 (m + 7) v = I s := hs
    simp (disch := omega) only [gd_t, bd_s, nm_W, nm_I, I_add, I_sub, I_mul, I_neg, I_le_t, I_le_f, I_lt_t, I_lt_f, I_eq_t, I_eq_f, I_inb', I_ix', Int.toNat_natCast, decide_true, decide_false, Bool.not_false, Bool.not_true, if_true, if_false, wi_eq, wi_eq', wi_ne, wi_row, wi_2, N0, N1, N2, N3, N4, N5, N6, N7, N8, N9, N10, N11, N12, N13, N14, N15, N16, N17, N18, N19, N20, N21, N22, N23, N24, N25, N26, N27, N28, N29, N30, N31, N32, N33, N34, N35, N36, N37, N38, N39, N40, N41, N42, N43, N45, N48, N57, N59, N88, N89, N97, N99, N120, N121, N122, N179, N200, N255, N300, N400, N880, N900, N999, N1019, N50000000, N100000000, N1000000000, N2147483647, N2147483648, h3, bn_t, hs, f_X4_startRound_115, e, f_X4_startRound_134]
  | false =>
    have hs : σ.1 5 v = I s := hs
    simp (disch := omega) only [gd_t, bd_s, nm_W, nm_I, I_add, I_sub, I_mul, I_neg, I_le_t, I_le_f, I_lt_t, I_lt_f, I_eq_t, I_eq_f, I_inb', I_ix', Int.toNat_natCast, decide_true, decide_false, Bool.not_false, Bool.not_true, if_true, if_false, wi_eq, wi_eq', wi_ne, wi_row, wi_2, N0, N1, N2, N3, N4, N5, N6, N7, N8, N9, N10, N11, N12, N13, N14, N15, N16, N17, N18, N19, N20, N21, N22, N23, N24, N25, N26, N27, N28, N29, N30, N31, N32, N33, N34, N35, N36, N37, N38, N39, N40, N41, N42, N43, N45, N48, N57, N59, N88, N89, N97, N99, N120, N121, N122, N179, N200, N255, N300, N400, N880, N900, N999, N1019, N50000000, N100000000, N1000000000, N2147483647, N2147483648, h3, bn_f, hs, f_X4_startRound_115, e, f_X4_startRound_134]
theorem s112_skip {V v k : Nat} {τ : Wd} {c s : Int} (h3 : τ.1 102 14 = I (V : Int)) (hV : V ≤ 5) (hv : v < V) (hs : τ.1 117 v = I s) (s0 : s = 0) : f_X7_beginsRound_112 (k + 1) (I c) (I (v : Int)) τ = f_X7_beginsRound_112 k (I c) (I ((v : Int) + 1)) τ := by
  rw [f_X7_beginsRound_112]
  simp (disch := omega) only [gd_t, bd_s, nm_W, nm_I, I_add, I_sub, I_mul, I_neg, I_le_t, I_le_f, I_lt_t, I_lt_f, I_eq_t, I_eq_f, I_inb', I_ix', Int.toNat_natCast, decide_true, decide_false, Bool.not_false, Bool.not_true, if_true, if_false, wi_eq, wi_eq', wi_ne, wi_row, wi_2, N0, N1, N2, N3, N4, N5, N6, N7, N8, N9, N10, N11, N12, N13, N14, N15, N16, N17, N18, N19, N20, N21, N22, N23, N24, N25, N26, N27, N28, N29, N30, N31, N32, N33, N34, N35, N36, N37, N38, N39, N40, N41, N42, N43, N45, N48, N57, N59, N88, N89, N97, N99, N120, N121, N122, N179, N200, N255, N300, N400, N880, N900, N999, N1019, N50000000, N100000000, N1000000000, N2147483647, N2147483648, h3, hs, f_X7_beginsRound_146]
theorem s112_send {V v k : Nat} {τ τ' : Wd} {c s : Int} (h3 : τ.1 102 14 = I (V : Int)) (hV : V ≤ 5) (hv : v < V) (hs : τ.1 117 v = I s) (s0 : 0 < s) (s1 : s ≤ 120) (e : f_X7_sends (I (v : Int)) (I s) τ = some (0, τ')) : f_X7_beginsRound_112 (k + 1) (I c) (I (v : Int)) τ = f_X7_beginsRound_112 k (I (c + 1)) (I ((v : Int) + 1)) τ' := by
  rw [f_X7_beginsRound_112]
  simp (disch := omega) only [gd_t, bd_s, nm_W, nm_I, I_add, I_sub, I_mul, I_neg, I_le_t, I_le_f, I_lt_t, I_lt_f, I_eq_t, I_eq_f, I_inb', I_ix', Int.toNat_natCast, decide_true, decide_false, Bool.not_false, Bool.not_true, if_true, if_false, wi_eq, wi_eq', wi_ne, wi_row, wi_2, N0, N1, N2, N3, N4, N5, N6, N7, N8, N9, N10, N11, N12, N13, N14, N15, N16, N17, N18, N19, N20, N21, N22, N23, N24, N25, N26, N27, N28, N29, N30, N31, N32, N33, N34, N35, N36, N37, N38, N39, N40, N41, N42, N43, N45, N48, N57, N59, N88, N89, N97, N99, N120, N121, N122, N179, N200, N255, N300, N400, N880, N900, N999, N1019, N50000000, N100000000, N1000000000, N2147483647, N2147483648, h3, hs, e, f_X7_beginsRound_146]
set_option maxHeartbeats 1000000 in
theorem sends_ok {m r V : Nat} {d : MD} {p L W : Int} {dl pl : Nat → Int} {b bp : Bool} {t s : Int} {sh : Nat → Int} (hm : 10 < m) (hmr : m + 12 < r) (hsh : ∀ w, w < V → 0 ≤ sh w ∧ sh w ≤ 120) :
    ∀ (rr v n1 n2 : Nat) (c z : Int) (h n g : Nat → Int) (σ τ : Wd), z = (v : Int) → v + rr = V → rr < n1 → rr < n2 → QM m σ τ V d p L W dl pl → QR r σ τ b t s → LR (r + 9) σ τ V d → QPs r σ τ V t h n g → (∀ w, v ≤ w → w < V → h w = 0) →
      (∀ w, w < V → (if bp then σ.1 (m + 7) w else σ.1 5 w) = I (sh w) ∧ τ.1 117 w = I (sh w)) →
      ∃ (σ' τ' : Wd) (h' n' g' : Nat → Int) (c' : Int), f_X4_startRound_85 r m n1 (I (bn bp)) (I c) (I z) σ = some (I c', σ') ∧ f_X7_beginsRound_112 n2 (I c) (I z) τ = some (I c', τ') ∧ QM m σ' τ' V d p L W dl pl ∧ QR r σ' τ' b t s ∧ LR (r + 9) σ' τ' V d ∧ QPs r σ' τ' V t h' n' g'
        ∧ (∀ w, w < v → n' w = n w) ∧ (∀ w, v ≤ w → w < V → n' w = sh w) ∧ (∀ k, k < r + 1 ∨ r + 8 < k → σ'.1 k = σ.1 k) ∧ σ'.2 = σ.2 ∧ (∀ k, k ≠ 112 → τ'.1 k = τ.1 k) ∧ τ'.2 = τ.2
  | 0, v, n1 + 1, n2 + 1, c, z, h, n, g, σ, τ, hz, hv, _, _, hM, hR, hL, hP, h0, hs => by
    have h5 := hM.1.1
    have e1 := hM.2.1.1
    have e2 := hM.2.2.1.1
    refine ⟨σ, τ, h, n, g, c, ?_, ?_, hM, hR, hL, hP, fun _ _ => rfl, fun w h1 h2 => absurd h2 (by omega), fun _ _ => rfl, rfl, fun _ _ => rfl, rfl⟩
    · clear hM hR hL hP h0 hs
      rw [f_X4_startRound_85]
      simp (disch := omega) only [gd_t, bd_s, nm_W, nm_I, I_add, I_sub, I_mul, I_neg, I_le_t, I_le_f, I_lt_t, I_lt_f, I_eq_t, I_eq_f, I_inb', I_ix', Int.toNat_natCast, decide_true, decide_false, Bool.not_false, Bool.not_true, if_true, if_false, wi_eq, wi_eq', wi_ne, wi_row, wi_2, N0, N1, N2, N3, N4, N5, N6, N7, N8, N9, N10, N11, N12, N13, N14, N15, N16, N17, N18, N19, N20, N21, N22, N23, N24, N25, N26, N27, N28, N29, N30, N31, N32, N33, N34, N35, N36, N37, N38, N39, N40, N41, N42, N43, N45, N48, N57, N59, N88, N89, N97, N99, N120, N121, N122, N179, N200, N255, N300, N400, N880, N900, N999, N1019, N50000000, N100000000, N1000000000, N2147483647, N2147483648, e1]
    · clear hM hR hL hP h0 hs
      rw [f_X7_beginsRound_112]
      simp (disch := omega) only [gd_t, bd_s, nm_W, nm_I, I_add, I_sub, I_mul, I_neg, I_le_t, I_le_f, I_lt_t, I_lt_f, I_eq_t, I_eq_f, I_inb', I_ix', Int.toNat_natCast, decide_true, decide_false, Bool.not_false, Bool.not_true, if_true, if_false, wi_eq, wi_eq', wi_ne, wi_row, wi_2, N0, N1, N2, N3, N4, N5, N6, N7, N8, N9, N10, N11, N12, N13, N14, N15, N16, N17, N18, N19, N20, N21, N22, N23, N24, N25, N26, N27, N28, N29, N30, N31, N32, N33, N34, N35, N36, N37, N38, N39, N40, N41, N42, N43, N45, N48, N57, N59, N88, N89, N97, N99, N120, N121, N122, N179, N200, N255, N300, N400, N880, N900, N999, N1019, N50000000, N100000000, N1000000000, N2147483647, N2147483648, e2]
  | rr + 1, v, n1 + 1, n2 + 1, c, z, h, n, g, σ, τ, hz, hv, hn1, hn2, hM, hR, hL, hP, h0, hs => by
    subst hz
    have h5 := hM.1.1
    have e1 := hM.2.1.1
    have e2 := hM.2.2.1.1
    have hvV : v < V := by omega
    obtain ⟨s1, s2⟩ := hs v hvV
    obtain ⟨b1, b2⟩ := hsh v hvV
    by_cases c0 : sh v = 0
    · obtain ⟨σ', τ', h', n', g', c', q1, q2, q3, q4, q5, q6, q7, q8, q9⟩ := sends_ok hm hmr hsh rr (v + 1) n1 n2 c ((v : Int) + 1) h n g σ τ (by omega) (by omega) (by omega) (by omega) hM hR hL hP (fun w h1 h2 => h0 w (by omega) h2) hs
      refine ⟨σ', τ', h', n', g', c', by rw [s85_skip e1 h5 hvV s1 c0]; exact q1, by rw [s112_skip e2 h5 hvV s2 c0]; exact q2, q3, q4, q5, q6, fun w hw => q7 w (by omega), fun w h1 h2 => ?_, q9⟩
      by_cases e : w = v
      · have hp := (hP v hvV).2.2.2.2.2.2.2.2
        have h00 := h0 v (Nat.le_refl _) hvV
        rw [e, q7 v (by omega), c0]
        omega
      · exact q8 w (by omega) h2
    · obtain ⟨σ1, τ1, a1, a2, a3, a4, a5, a6, a7, a8, a9⟩ := send_ok (n := sh v) hm hmr hvV hM hR hL (by omega) b2
      obtain ⟨σ', τ', h', n', g', c', q1, q2, q3, q4, q5, q6, q7, q8, q9, q10, q11, q12⟩ := sends_ok hm hmr hsh rr (v + 1) n1 n2 (c + 1) ((v : Int) + 1) (fun w => if w = v then 1 else h w) (fun w => if w = v then sh v else n w) (fun w => if w = v then 0 else g w) σ1 τ1 (by omega) (by omega) (by omega) (by omega) a3 a4 a6
        (fun w hw => by
          by_cases e : w = v
          · subst e
            simp only [if_true]
            exact a5
          · simp only [if_neg e]
            exact QP_congr (hP w hw) (fun k g1 g2 => a9.1.2.1 k g1 g2 w e) (fun i g1 g2 => a9.2.2.1 i (by omega) (by omega) (by omega)) (a9.2.1 103 (by decide)))
        (fun w h1 h2 => by
          simp only [if_neg (show ¬ w = v by omega)]
          exact h0 w (by omega) h2)
        (fun w hw => by rw [a8 (m + 7) (by omega), a8 5 (by omega), a9.2.1 117 (by decide)]; exact hs w hw)
      refine ⟨σ', τ', h', n', g', c', by rw [s85_send e1 h5 hvV s1 (by omega) b2 a1]; exact q1, by rw [s112_send e2 h5 hvV s2 (by omega) b2 a2]; exact q2, q3, q4, q5, q6, fun w hw => ?_, fun w h1 h2 => ?_, fun k hk => by rw [q9 k hk, a8 k hk], by rw [q10, a9.1.2.2.2], fun k hk => by rw [q11 k hk, a9.2.1 k hk], by rw [q12, a9.2.2.2]⟩
      · have := q7 w (by omega)
        simp only [if_neg (show ¬ w = v by omega)] at this
        exact this
      · by_cases e : w = v
        · have := q7 w (by omega)
          simp only [if_pos e] at this
          rw [this, e]
        · exact q8 w (by omega) h2

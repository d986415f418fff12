/-! PURE: the fewest venues, as the reference looks for them: over all sets -/
def orf (f : Nat → Bool) : Nat → Bool
  | 0 => f 0
  | K + 1 => orf f K || f (K + 1)
theorem orf_iff {f : Nat → Bool} : ∀ K, orf f K = true ↔ ∃ i, i ≤ K ∧ f i = true
  | 0 => ⟨fun h => ⟨0, Nat.le_refl _, h⟩, fun ⟨i, h1, h2⟩ => by
      have : i = 0 := by omega
      subst this
      exact h2⟩
  | K + 1 => by
    unfold orf
    rw [Bool.or_eq_true, orf_iff K]
    constructor
    · rintro (⟨i, h1, h2⟩ | h)
      · exact ⟨i, by omega, h2⟩
      · exact ⟨K + 1, Nat.le_refl _, h⟩
    · rintro ⟨i, h1, h2⟩
      by_cases c : i = K + 1
      · subst c; exact Or.inr h2
      · exact Or.inl ⟨i, by omega, h2⟩
def rc (d : MD) (p : Int) (s : Nat → Bool) : Nat → Nat → Bool
  | 0, u => decide (u = 0)
  | v + 1, u => if s v then orf (fun i => rc d p s v (u - i * (d.lo v).toNat)) (kx d p (-1) v u) else rc d p s v u
def bm (f : Nat → Bool) : Nat → Nat
  | 0 => 0
  | u + 1 => if f (u + 1) then u + 1 else bm f u
theorem rc_0 {d : MD} {p : Int} {s : Nat → Bool} : ∀ v, rc d p s v 0 = true
  | 0 => rfl
  | v + 1 => by
    unfold rc
    split
    · rw [orf_iff]
      exact ⟨0, by omega, by rw [Nat.zero_mul]; exact rc_0 v⟩
    · exact rc_0 v
theorem bm_le {f : Nat → Bool} : ∀ u, bm f u ≤ u
  | 0 => Nat.le_refl _
  | u + 1 => by
    unfold bm
    split
    · exact Nat.le_refl _
    · have := bm_le (f := f) u
      omega
theorem bm_at {f : Nat → Bool} (h : f 0 = true) : ∀ u, f (bm f u) = true
  | 0 => h
  | u + 1 => by
    unfold bm
    split
    · assumption
    · exact bm_at h u
theorem bm_ge {f : Nat → Bool} {w : Nat} (h : f w = true) : ∀ u, w ≤ u → w ≤ bm f u
  | 0, h2 => h2
  | u + 1, h2 => by
    unfold bm
    split
    · exact h2
    · rename_i c
      have : w ≠ u + 1 := fun e => c (e ▸ h)
      exact bm_ge h u (by omega)
theorem bu_ge {f : Nat → Option Int} {w : Nat} (h : f w ≠ none) : ∀ u, w ≤ u → w ≤ bu f u
  | 0, h2 => h2
  | u + 1, h2 => by
    unfold bu
    split
    · rename_i c
      have : w ≠ u + 1 := fun e => h (e ▸ c)
      exact bu_ge h u (by omega)
    · exact h2
def bn (b : Bool) : Int := if b then 1 else 0
def cnt (s : Nat → Bool) : Nat → Int
  | 0 => 0
  | v + 1 => cnt s v + bn (s v)
theorem bn_bnd (b : Bool) : 0 ≤ bn b ∧ bn b ≤ 1 := by cases b <;> decide
theorem cnt_bnd {s : Nat → Bool} : ∀ v, 0 ≤ cnt s v ∧ cnt s v ≤ (v : Int)
  | 0 => ⟨Int.le_refl _, Int.le_refl _⟩
  | v + 1 => by
    have := cnt_bnd (s := s) v
    have := bn_bnd (s v)
    unfold cnt
    omega
theorem mnf_no {f : Nat → Option Int} : ∀ {K : Nat}, mnf f K = none → ∀ i, i ≤ K → f i = none
  | 0, h, i, hi => by
    have : i = 0 := by omega
    subst this
    exact h
  | K + 1, h, i, hi => by
    have h : omin (mnf f K) (f (K + 1)) = none := h
    cases h1 : mnf f K with
    | none =>
      rw [h1, none_omin] at h
      by_cases e : i = K + 1
      · subst e; exact h
      · exact mnf_no h1 i (by omega)
    | some z =>
      cases h2 : f (K + 1) with
      | none => rw [h1, h2] at h; cases h
      | some w => rw [h1, h2] at h; cases h
/-- a set that reaches u has as many venues as the fewest, or more -/
theorem rc_fw {d : MD} {p : Int} {s : Nat → Bool} : ∀ (v u : Nat), rc d p s v u = true → ∃ x, fw d p v u = some x ∧ x ≤ cnt s v
  | 0, u, h => by
    have h : decide (u = 0) = true := h
    have : u = 0 := of_decide_eq_true h
    subst this
    exact ⟨0, rfl, Int.le_refl _⟩
  | v + 1, u, h => by
    have key : ∀ i, i ≤ kx d p (-1) v u → ∀ y, fF (fw d p v) u (d.lo v).toNat i = some y → ∃ x, fw d p (v + 1) u = some x ∧ x ≤ y := by
      intro i hi y hy
      cases hm : mnf (fF (fw d p v) u (d.lo v).toNat) (kx d p (-1) v u) with
      | none =>
        have := mnf_no hm i hi
        rw [this] at hy
        cases hy
      | some x => exact ⟨x, hm, mnf_le hm i hi y hy⟩
    have bb := bn_bnd (s v)
    unfold rc at h
    by_cases c : s v = true
    · rw [if_pos c, orf_iff] at h
      obtain ⟨i, h1, h2⟩ := h
      obtain ⟨x, e1, e2⟩ := rc_fw v _ h2
      unfold cnt
      rw [c, show bn true = 1 from rfl]
      by_cases c2 : i = 0
      · subst c2
        rw [Nat.zero_mul, Nat.sub_zero] at e1
        obtain ⟨y, g1, g2⟩ := key 0 (by omega) x (by unfold fF; rw [if_pos rfl]; exact e1)
        exact ⟨y, g1, by omega⟩
      · obtain ⟨y, g1, g2⟩ := key i h1 (1 + x) (by unfold fF; rw [if_neg c2, e1]; rfl)
        exact ⟨y, g1, by omega⟩
    · rw [if_neg c] at h
      obtain ⟨x, e1, e2⟩ := rc_fw v u h
      obtain ⟨y, g1, g2⟩ := key 0 (by omega) x (by unfold fF; rw [if_pos rfl]; exact e1)
      unfold cnt
      exact ⟨y, g1, by omega⟩
theorem rc_congr {d : MD} {p : Int} {s t : Nat → Bool} : ∀ (v u : Nat), (∀ w, w < v → s w = t w) → rc d p s v u = rc d p t v u
  | 0, _, _ => rfl
  | v + 1, u, h => by
    unfold rc
    rw [h v (by omega), rc_congr v u (fun w hw => h w (by omega))]
    have : (fun i => rc d p s v (u - i * (d.lo v).toNat)) = (fun i => rc d p t v (u - i * (d.lo v).toNat)) := funext (fun i => rc_congr v _ (fun w hw => h w (by omega)))
    rw [this]
theorem cnt_congr {s t : Nat → Bool} : ∀ (v : Nat), (∀ w, w < v → s w = t w) → cnt s v = cnt t v
  | 0, _ => rfl
  | v + 1, h => by
    unfold cnt
    rw [h v (by omega), cnt_congr v (fun w hw => h w (by omega))]
theorem bit_add : ∀ v, v < 5 → ∀ S, S < 2 ^ v → (∀ w, w < v → (S + 2 ^ v).testBit w = S.testBit w) ∧ (S + 2 ^ v).testBit v = true ∧ S.testBit v = false := by decide
/-- and some set has as many -/
theorem fw_rc {d : MD} {p : Int} : ∀ (v u : Nat) (x : Int), v ≤ 5 → fw d p v u = some x → ∃ S, S < 2 ^ v ∧ rc d p S.testBit v u = true ∧ cnt S.testBit v = x
  | 0, u, x, _, h => by
    unfold fw at h
    split at h
    · rename_i c
      exact ⟨0, by decide, decide_eq_true c, Option.some.inj h⟩
    · cases h
  | v + 1, u, x, hv, h => by
    obtain ⟨i, h1, h2⟩ := mnf_at (show mnf _ _ = some x from h)
    unfold fF at h2
    have p2 : 2 ^ (v + 1) = 2 ^ v * 2 := Nat.pow_succ 2 v
    by_cases c : i = 0
    · rw [if_pos c] at h2
      obtain ⟨S, s1, s2, s3⟩ := fw_rc v u x (by omega) h2
      obtain ⟨-, -, b⟩ := bit_add v (by omega) S s1
      refine ⟨S, by omega, ?_, ?_⟩
      · unfold rc
        rw [b]
        exact s2
      · unfold cnt
        rw [b, s3]
        show x + 0 = x
        omega
    · rw [if_neg c] at h2
      cases hg : fw d p v (u - i * (d.lo v).toNat) with
      | none => rw [hg] at h2; cases h2
      | some y =>
        rw [hg] at h2
        have h2 : some (1 + y) = some x := h2
        have h2 := Option.some.inj h2
        obtain ⟨S, s1, s2, s3⟩ := fw_rc v _ y (by omega) hg
        obtain ⟨a, b, -⟩ := bit_add v (by omega) S s1
        refine ⟨S + 2 ^ v, by omega, ?_, ?_⟩
        · unfold rc
          rw [b, if_pos rfl, orf_iff]
          refine ⟨i, h1, ?_⟩
          show rc d p (S + 2 ^ v).testBit v (u - i * (d.lo v).toNat) = true
          rw [rc_congr v _ a]
          exact s2
        · unfold cnt
          rw [b, cnt_congr v a, s3, show bn true = 1 from rfl]
          omega
theorem fw_full {d : MD} {p : Int} : ∀ (v u : Nat), fw d p v u ≠ none → rc d p (fun _ => true) v u = true
  | 0, u, h => by
    unfold fw at h
    by_cases c : u = 0
    · exact decide_eq_true c
    · rw [if_neg c] at h
      exact absurd rfl h
  | v + 1, u, h => by
    obtain ⟨x, hx⟩ := Option.ne_none_iff_exists'.mp h
    obtain ⟨i, h1, h2⟩ := mnf_at (show mnf _ _ = some x from hx)
    unfold rc
    rw [if_pos rfl, orf_iff]
    refine ⟨i, h1, fw_full v _ ?_⟩
    unfold fF at h2
    intro e
    by_cases c : i = 0
    · rw [if_pos c] at h2
      subst c
      rw [Nat.zero_mul, Nat.sub_zero, h2] at e
      cases e
    · rw [if_neg c, e] at h2
      cases h2
theorem bm_full {d : MD} {p : Int} {V : Nat} : ∀ q, bm (rc d p (fun _ => true) V) q = bu (fw d p V) q
  | 0 => rfl
  | q + 1 => by
    unfold bm bu
    rw [bm_full q]
    by_cases c : fw d p V (q + 1) = none
    · rw [if_pos c, if_neg]
      intro h
      obtain ⟨x, hx, -⟩ := rc_fw V (q + 1) h
      rw [c] at hx
      cases hx
    · rw [if_neg c, if_pos (fw_full V _ c)]
/-! the reference's loops -/
theorem bn_nar (b : Bool) : vp_nar .boolean (I (bn b)) = I (bn b) := by cases b <;> rfl
theorem r_rc1 {V v u q : Nat} {p : Int} {x1 : Int32} {d : MD} {g : Nat → Bool} {k31 : Int32 → Int32 → Int32 → Wd → Option (Int32 × Wd)} {k54 : Int32 → Int32 → Int32 → Int32 → Wd → Option (Int32 × Wd)} (hd : MDok d V) (hv : v < V) (hp : R p) (hu : u ≤ 120) (hu0 : 0 < u) :
    ∀ (r i n : Nat) (z : Int) (acc : Bool) (σ : Wd), z = ((i * (d.lo v).toNat : Nat) : Int) → 1 ≤ i → i + r = kx d p (-1) v u + 1 → r < n → RV σ V d → σ.1 102 12 = I p → acc = orf (fun i => g (u - i * (d.lo v).toNat)) (i - 1) → σ.1 119 u = I (bn acc) → (∀ w, w < u → σ.1 119 w = I (bn (g w))) →
      ∃ σ', f_X7_mostOf_66 k31 k54 n x1 (I (q : Int)) (I (v : Int)) (I (u : Int)) (I z) σ = k54 x1 (I (q : Int)) (I (v : Int)) (I ((u : Int) - 1)) σ'
        ∧ σ'.1 119 u = I (bn (orf (fun i => g (u - i * (d.lo v).toNat)) (kx d p (-1) v u))) ∧ (∀ w, w ≠ u → σ'.1 119 w = σ.1 119 w) ∧ (∀ k, k ≠ 119 → σ'.1 k = σ.1 k) ∧ σ'.2 = σ.2
  | 0, i, n + 1, z, acc, σ, hz, hi1, hi, _, h, hl, ha, hacc, hg => by
    obtain ⟨-, lb, -⟩ := hd.2 v hv
    have db := dep_bnd (p := p) hd hv
    have l1 : 1 ≤ (d.lo v).toNat := by omega
    have h5 := hd.1
    have kk : kx d p (-1) v u = min u (dep d p v).toNat / (d.lo v).toNat := by unfold kx; rw [if_neg (by omega)]
    obtain ⟨k1, k2⟩ := div_box (M := min u (dep d p v).toNat) l1
    rw [← kk] at k1 k2
    have hi : i = kx d p (-1) v u + 1 := by omega
    have e : i * (d.lo v).toNat = kx d p (-1) v u * (d.lo v).toNat + (d.lo v).toNat := by rw [hi]; exact Nat.succ_mul _ _
    refine ⟨σ, ?_, by rw [hacc, ha, show i - 1 = kx d p (-1) v u from by omega], fun _ _ => rfl, fun _ _ => rfl, rfl⟩
    rw [f_X7_mostOf_66]
    by_cases c : (u : Int) < z
    · simp (disch := omega) only [gd_t, bd_s, nm_W, nm_I, I_add, I_sub, I_mul, I_neg, I_le_t, I_le_f, I_lt_t, I_lt_f, I_eq_t, I_eq_f, I_inb', I_ix', Int.toNat_natCast, decide_true, decide_false, Bool.not_false, Bool.not_true, if_true, if_false, wi_eq, wi_eq', wi_ne, wi_row, wi_2, N0, N1, N2, N3, N4, N5, N6, N7, N8, N9, N10, N11, N12, N13, N14, N15, N16, N17, N18, N19, N20, N21, N22, N23, N24, N25, N26, N27, N28, N29, N30, N31, N32, N33, N34, N35, N36, N37, N38, N39, N40, N41, N42, N43, N45, N48, N57, N59, N88, N89, N97, N99, N120, N121, N122, N179, N200, N255, N300, N400, N880, N900, N999, N1019, N50000000, N100000000, N1000000000, N2147483647, N2147483648, f_X7_mostOf_123]
      rfl
    · simp (disch := omega) only [gd_t, bd_s, nm_W, nm_I, I_add, I_sub, I_mul, I_neg, I_le_t, I_le_f, I_lt_t, I_lt_f, I_eq_t, I_eq_f, I_inb', I_ix', Int.toNat_natCast, decide_true, decide_false, Bool.not_false, Bool.not_true, if_true, if_false, wi_eq, wi_eq', wi_ne, wi_row, wi_2, N0, N1, N2, N3, N4, N5, N6, N7, N8, N9, N10, N11, N12, N13, N14, N15, N16, N17, N18, N19, N20, N21, N22, N23, N24, N25, N26, N27, N28, N29, N30, N31, N32, N33, N34, N35, N36, N37, N38, N39, N40, N41, N42, N43, N45, N48, N57, N59, N88, N89, N97, N99, N120, N121, N122, N179, N200, N255, N300, N400, N880, N900, N999, N1019, N50000000, N100000000, N1000000000, N2147483647, N2147483648, f_X7_mostOf_123, rDepth h hd hv hp hl]
      rfl
  | r + 1, i, n + 1, z, acc, σ, hz, hi1, hi, hn, h, hl, ha, hacc, hg => by
    obtain ⟨-, lb, -⟩ := hd.2 v hv
    have db := dep_bnd (p := p) hd hv
    have l1 : 1 ≤ (d.lo v).toNat := by omega
    have h5 := hd.1
    have kk : kx d p (-1) v u = min u (dep d p v).toNat / (d.lo v).toNat := by unfold kx; rw [if_neg (by omega)]
    obtain ⟨k1, k2⟩ := div_box (M := min u (dep d p v).toNat) l1
    rw [← kk] at k1 k2
    have hiK : i ≤ kx d p (-1) v u := by omega
    have m1 : i * (d.lo v).toNat ≤ kx d p (-1) v u * (d.lo v).toNat := Nat.mul_le_mul_right _ hiK
    have m2 : 1 * (d.lo v).toNat ≤ i * (d.lo v).toNat := Nat.mul_le_mul_right _ hi1
    have e : (i + 1) * (d.lo v).toNat = i * (d.lo v).toNat + (d.lo v).toNat := Nat.succ_mul _ _
    have t1 : ((u : Int) - z).toNat = u - i * (d.lo v).toNat := by omega
    cases hb : acc with
    | true =>
      rw [hb] at hacc ha
      have full : orf (fun i => g (u - i * (d.lo v).toNat)) (kx d p (-1) v u) = true := by
        rw [orf_iff]
        obtain ⟨j, j1, j2⟩ := (orf_iff _).mp ha.symm
        exact ⟨j, by omega, j2⟩
      refine ⟨σ, ?_, by rw [hacc, full], fun _ _ => rfl, fun _ _ => rfl, rfl⟩
      rw [f_X7_mostOf_66]
      simp (disch := omega) only [gd_t, bd_s, nm_W, nm_I, I_add, I_sub, I_mul, I_neg, I_le_t, I_le_f, I_lt_t, I_lt_f, I_eq_t, I_eq_f, I_inb', I_ix', Int.toNat_natCast, decide_true, decide_false, Bool.not_false, Bool.not_true, if_true, if_false, wi_eq, wi_eq', wi_ne, wi_row, wi_2, N0, N1, N2, N3, N4, N5, N6, N7, N8, N9, N10, N11, N12, N13, N14, N15, N16, N17, N18, N19, N20, N21, N22, N23, N24, N25, N26, N27, N28, N29, N30, N31, N32, N33, N34, N35, N36, N37, N38, N39, N40, N41, N42, N43, N45, N48, N57, N59, N88, N89, N97, N99, N120, N121, N122, N179, N200, N255, N300, N400, N880, N900, N999, N1019, N50000000, N100000000, N1000000000, N2147483647, N2147483648, rDepth h hd hv hp hl, hacc, show bn true = 1 from rfl, f_X7_mostOf_123]
      rfl
    | false =>
      rw [hb] at hacc ha
      have he := hg (u - i * (d.lo v).toNat) (by omega)
      have ea : g (u - i * (d.lo v).toNat) = orf (fun i => g (u - i * (d.lo v).toNat)) (i + 1 - 1) := by
        rw [show i + 1 - 1 = (i - 1) + 1 from by omega]
        show _ = (orf _ (i - 1) || g (u - (i - 1 + 1) * (d.lo v).toNat))
        rw [← ha, show i - 1 + 1 = i from by omega, Bool.false_or]
      have h' : RV (wi σ 119 u (I (bn (g (u - i * (d.lo v).toNat))))) V d := RV_congr h (by rw [wi_row (by decide)]) (wi_row (by decide)) (wi_row (by decide)) (wi_row (by decide))
      obtain ⟨σ', q1, q2, q3, q4, q5⟩ := r_rc1 (q := q) (x1 := x1) (k31 := k31) (k54 := k54) hd hv hp hu hu0 r (i + 1) n (z + d.lo v) (g (u - i * (d.lo v).toNat)) (wi σ 119 u (I (bn (g (u - i * (d.lo v).toNat))))) (by omega) (by omega) (by omega) (by omega) h' (by rw [wi_row (by decide)]; exact hl) ea wi_eq (fun w hw => by rw [wi_ne (by omega)]; exact hg w hw)
      refine ⟨σ', ?_, q2, fun w hw => by rw [q3 w hw, wi_ne hw], fun k hk => by rw [q4 k hk, wi_row hk], by rw [q5, wi_2]⟩
      rw [← q1, f_X7_mostOf_66]
      simp (disch := omega) only [gd_t, bd_s, nm_W, nm_I, I_add, I_sub, I_mul, I_neg, I_le_t, I_le_f, I_lt_t, I_lt_f, I_eq_t, I_eq_f, I_inb', I_ix', Int.toNat_natCast, decide_true, decide_false, Bool.not_false, Bool.not_true, if_true, if_false, wi_eq, wi_eq', wi_ne, wi_row, wi_2, N0, N1, N2, N3, N4, N5, N6, N7, N8, N9, N10, N11, N12, N13, N14, N15, N16, N17, N18, N19, N20, N21, N22, N23, N24, N25, N26, N27, N28, N29, N30, N31, N32, N33, N34, N35, N36, N37, N38, N39, N40, N41, N42, N43, N45, N48, N57, N59, N88, N89, N97, N99, N120, N121, N122, N179, N200, N255, N300, N400, N880, N900, N999, N1019, N50000000, N100000000, N1000000000, N2147483647, N2147483648, rDepth h hd hv hp hl, hacc, show bn false = 0 from rfl, t1, he, bn_nar, rLot h' hd hv]
theorem r_rc2 {V v q : Nat} {p : Int} {x1 : Int32} {d : MD} {s : Nat → Bool} {k31 : Int32 → Int32 → Int32 → Wd → Option (Int32 × Wd)} (hd : MDok d V) (hv : v < V) (hp : R p) (hs : s v = true) :
    ∀ (u n : Nat) (z : Int) (σ : Wd), z = (u : Int) → u ≤ 120 → u < n → RV σ V d → σ.1 102 12 = I p → (∀ w, w ≤ u → σ.1 119 w = I (bn (rc d p s v w))) → (∀ w, u < w → w ≤ 120 → σ.1 119 w = I (bn (rc d p s (v + 1) w))) →
      ∃ σ', f_X7_mostOf_54 k31 n x1 (I (q : Int)) (I (v : Int)) (I z) σ = k31 x1 (I (q : Int)) (I ((v : Int) + 1)) σ'
        ∧ (∀ w, w ≤ 120 → σ'.1 119 w = I (bn (rc d p s (v + 1) w))) ∧ (∀ k, k ≠ 119 → σ'.1 k = σ.1 k) ∧ σ'.2 = σ.2
  | 0, n + 1, z, σ, hz, _, _, h, hl, h1, h2 => by
    refine ⟨σ, ?_, fun w hw => ?_, fun _ _ => rfl, rfl⟩
    · rw [f_X7_mostOf_54]
      simp (disch := omega) only [gd_t, bd_s, nm_W, nm_I, I_add, I_sub, I_mul, I_neg, I_le_t, I_le_f, I_lt_t, I_lt_f, I_eq_t, I_eq_f, I_inb', I_ix', Int.toNat_natCast, decide_true, decide_false, Bool.not_false, Bool.not_true, if_true, if_false, wi_eq, wi_eq', wi_ne, wi_row, wi_2, N0, N1, N2, N3, N4, N5, N6, N7, N8, N9, N10, N11, N12, N13, N14, N15, N16, N17, N18, N19, N20, N21, N22, N23, N24, N25, N26, N27, N28, N29, N30, N31, N32, N33, N34, N35, N36, N37, N38, N39, N40, N41, N42, N43, N45, N48, N57, N59, N88, N89, N97, N99, N120, N121, N122, N179, N200, N255, N300, N400, N880, N900, N999, N1019, N50000000, N100000000, N1000000000, N2147483647, N2147483648, f_X7_mostOf_129]
    · by_cases c : w = 0
      · subst c
        rw [h1 0 (by omega), rc_0, rc_0]
      · exact h2 w (by omega) hw
  | u + 1, n + 1, z, σ, hz, hu, hn, h, hl, h1, h2 => by
    obtain ⟨-, lb, -⟩ := hd.2 v hv
    have kb := kx_le (p := p) (but := -1) (u := u + 1) hd hv
    have kb2 : kx d p (-1) v (u + 1) ≤ kx d p (-1) v (u + 1) * (d.lo v).toNat := Nat.le_mul_of_pos_right _ (by omega)
    obtain ⟨τ, t1, t2, t3, t4, t5⟩ := r_rc1 (q := q) (x1 := x1) (g := rc d p s v) (k31 := k31) (k54 := f_X7_mostOf_54 k31 n) hd hv hp hu (by omega) (kx d p (-1) v (u + 1)) 1 FU (d.lo v) (rc d p s v (u + 1)) σ (by rw [Nat.one_mul]; omega) (by omega) (by omega) (by show _ < 6000; omega) h hl
      (by show _ = rc d p s v (u + 1 - 0 * (d.lo v).toNat); rw [Nat.zero_mul]; rfl) (h1 _ (Nat.le_refl _)) (fun w hw => h1 w (by omega))
    have er : rc d p s (v + 1) (u + 1) = orf (fun i => rc d p s v (u + 1 - i * (d.lo v).toNat)) (kx d p (-1) v (u + 1)) := by
      rw [rc, if_pos hs]
    rw [← er] at t2
    obtain ⟨σ', q1, q2, q3, q4⟩ := r_rc2 (x1 := x1) (q := q) (k31 := k31) hd hv hp hs u n (z - 1) τ (by omega) (by omega) (by omega)
      (RV_congr h (by rw [t4 102 (by decide)]) (t4 103 (by decide)) (t4 104 (by decide)) (t4 112 (by decide))) (by rw [t4 102 (by decide)]; exact hl)
      (fun w hw => by rw [t3 w (by omega)]; exact h1 w (by omega))
      (fun w g1 g2 => by
        by_cases c : w = u + 1
        · subst c; exact t2
        · rw [t3 w c]; exact h2 w (by omega) g2)
    refine ⟨σ', ?_, q2, fun k hk => by rw [q3 k hk, t4 k hk], by rw [q4, t5]⟩
    rw [← hz] at t1
    rw [← q1, ← t1, f_X7_mostOf_54]
    simp (disch := omega) only [gd_t, bd_s, nm_W, nm_I, I_add, I_sub, I_mul, I_neg, I_le_t, I_le_f, I_lt_t, I_lt_f, I_eq_t, I_eq_f, I_inb', I_ix', Int.toNat_natCast, decide_true, decide_false, Bool.not_false, Bool.not_true, if_true, if_false, wi_eq, wi_eq', wi_ne, wi_row, wi_2, N0, N1, N2, N3, N4, N5, N6, N7, N8, N9, N10, N11, N12, N13, N14, N15, N16, N17, N18, N19, N20, N21, N22, N23, N24, N25, N26, N27, N28, N29, N30, N31, N32, N33, N34, N35, N36, N37, N38, N39, N40, N41, N42, N43, N45, N48, N57, N59, N88, N89, N97, N99, N120, N121, N122, N179, N200, N255, N300, N400, N880, N900, N999, N1019, N50000000, N100000000, N1000000000, N2147483647, N2147483648, rLot h hd hv]
theorem r_rc3 {V : Nat} {p : Int} {d : MD} {s : Nat → Bool} (hd : MDok d V) : ∀ (u n : Nat) (z : Int) (σ : Wd), z = (u : Int) → u ≤ 120 → u < n → (∀ w, w ≤ 120 → σ.1 119 w = I (bn (rc d p s V w))) →
      f_X7_mostOf_137 n (I z) σ = some (I (bm (rc d p s V) u : Int), σ)
  | 0, n + 1, z, σ, hz, _, _, h => by
    have tz : z.toNat = 0 := by omega
    rw [f_X7_mostOf_137]
    simp (disch := omega) only [gd_t, bd_s, nm_W, nm_I, I_add, I_sub, I_mul, I_neg, I_le_t, I_le_f, I_lt_t, I_lt_f, I_eq_t, I_eq_f, I_inb', I_ix', Int.toNat_natCast, decide_true, decide_false, Bool.not_false, Bool.not_true, if_true, if_false, wi_eq, wi_eq', wi_ne, wi_row, wi_2, N0, N1, N2, N3, N4, N5, N6, N7, N8, N9, N10, N11, N12, N13, N14, N15, N16, N17, N18, N19, N20, N21, N22, N23, N24, N25, N26, N27, N28, N29, N30, N31, N32, N33, N34, N35, N36, N37, N38, N39, N40, N41, N42, N43, N45, N48, N57, N59, N88, N89, N97, N99, N120, N121, N122, N179, N200, N255, N300, N400, N880, N900, N999, N1019, N50000000, N100000000, N1000000000, N2147483647, N2147483648, tz, h 0 (by omega), rc_0, show bn true = 1 from rfl]
    rw [hz]
    rfl
  | u + 1, n + 1, z, σ, hz, hu, hn, h => by
    have tz : z.toNat = u + 1 := by omega
    rw [f_X7_mostOf_137, bm]
    cases hb : rc d p s V (u + 1) with
    | true =>
      simp (disch := omega) only [gd_t, bd_s, nm_W, nm_I, I_add, I_sub, I_mul, I_neg, I_le_t, I_le_f, I_lt_t, I_lt_f, I_eq_t, I_eq_f, I_inb', I_ix', Int.toNat_natCast, decide_true, decide_false, Bool.not_false, Bool.not_true, if_true, if_false, wi_eq, wi_eq', wi_ne, wi_row, wi_2, N0, N1, N2, N3, N4, N5, N6, N7, N8, N9, N10, N11, N12, N13, N14, N15, N16, N17, N18, N19, N20, N21, N22, N23, N24, N25, N26, N27, N28, N29, N30, N31, N32, N33, N34, N35, N36, N37, N38, N39, N40, N41, N42, N43, N45, N48, N57, N59, N88, N89, N97, N99, N120, N121, N122, N179, N200, N255, N300, N400, N880, N900, N999, N1019, N50000000, N100000000, N1000000000, N2147483647, N2147483648, tz, h (u + 1) hu, hb, show bn true = 1 from rfl]
      rw [hz]
    | false =>
      simp (disch := omega) only [gd_t, bd_s, nm_W, nm_I, I_add, I_sub, I_mul, I_neg, I_le_t, I_le_f, I_lt_t, I_lt_f, I_eq_t, I_eq_f, I_inb', I_ix', Int.toNat_natCast, decide_true, decide_false, Bool.not_false, Bool.not_true, if_true, if_false, wi_eq, wi_eq', wi_ne, wi_row, wi_2, N0, N1, N2, N3, N4, N5, N6, N7, N8, N9, N10, N11, N12, N13, N14, N15, N16, N17, N18, N19, N20, N21, N22, N23, N24, N25, N26, N27, N28, N29, N30, N31, N32, N33, N34, N35, N36, N37, N38, N39, N40, N41, N42, N43, N45, N48, N57, N59, N88, N89, N97, N99, N120, N121, N122, N179, N200, N255, N300, N400, N880, N900, N999, N1019, N50000000, N100000000, N1000000000, N2147483647, N2147483648, tz, h (u + 1) hu, hb, show bn false = 0 from rfl]
      rw [if_neg (show ¬ false = true by decide), r_rc3 hd u n _ σ (by omega) (by omega) (by omega) h]
theorem bit_get : ∀ S, S < 32 → ∀ v, v < 5 → (I ((S : Nat) : Int) >>> (I ((v : Nat) : Int) &&& 31)) &&& 1 = I (bn (S.testBit v)) := by decide
theorem r_rc4 {V q S : Nat} {p : Int} {d : MD} (hd : MDok d V) (hp : R p) (hq : q ≤ 120) (hS : S < 32) :
    ∀ (r v n : Nat) (z : Int) (σ : Wd), z = (v : Int) → v + r = V → r < n → RV σ V d → σ.1 102 12 = I p → (∀ w, w ≤ 120 → σ.1 119 w = I (bn (rc d p S.testBit v w))) →
      ∃ σ', f_X7_mostOf_31 n (I (S : Int)) (I (q : Int)) (I z) σ = some (I (bm (rc d p S.testBit V) q : Int), σ') ∧ (∀ k, k ≠ 119 → σ'.1 k = σ.1 k) ∧ σ'.2 = σ.2
  | 0, v, n + 1, z, σ, hz, hv, _, h, hl, hw => by
    have h5 := hd.1
    have hv : v = V := by omega
    subst hv
    refine ⟨σ, ?_, fun _ _ => rfl, rfl⟩
    rw [f_X7_mostOf_31]
    simp (disch := omega) only [gd_t, bd_s, nm_W, nm_I, I_add, I_sub, I_mul, I_neg, I_le_t, I_le_f, I_lt_t, I_lt_f, I_eq_t, I_eq_f, I_inb', I_ix', Int.toNat_natCast, decide_true, decide_false, Bool.not_false, Bool.not_true, if_true, if_false, wi_eq, wi_eq', wi_ne, wi_row, wi_2, N0, N1, N2, N3, N4, N5, N6, N7, N8, N9, N10, N11, N12, N13, N14, N15, N16, N17, N18, N19, N20, N21, N22, N23, N24, N25, N26, N27, N28, N29, N30, N31, N32, N33, N34, N35, N36, N37, N38, N39, N40, N41, N42, N43, N45, N48, N57, N59, N88, N89, N97, N99, N120, N121, N122, N179, N200, N255, N300, N400, N880, N900, N999, N1019, N50000000, N100000000, N1000000000, N2147483647, N2147483648, h.1]
    exact r_rc3 hd q FU _ σ rfl hq (by show _ < 6000; omega) hw
  | r + 1, v, n + 1, z, σ, hz, hv, hn, h, hl, hw => by
    subst hz
    have h5 := hd.1
    have hvV : v < V := by omega
    have eb := bit_get S hS v (by omega)
    rw [N31, N1] at eb
    cases hb : S.testBit v with
    | true =>
      obtain ⟨τ, t1, t2, t3, t4⟩ := r_rc2 (x1 := I (S : Int)) (q := q) (k31 := f_X7_mostOf_31 n) hd hvV hp hb 120 FU 120 σ rfl (Nat.le_refl _) (by decide) h hl hw (fun w g1 g2 => absurd g1 (by omega))
      obtain ⟨σ', q1, q2, q3⟩ := r_rc4 hd hp hq hS r (v + 1) n ((v : Int) + 1) τ (by omega) (by omega) (by omega)
        (RV_congr h (by rw [t3 102 (by decide)]) (t3 103 (by decide)) (t3 104 (by decide)) (t3 112 (by decide))) (by rw [t3 102 (by decide)]; exact hl) t2
      refine ⟨σ', ?_, fun k hk => by rw [q2 k hk, t3 k hk], by rw [q3, t4]⟩
      rw [hb, show bn true = 1 from rfl] at eb
      rw [← q1, ← t1, f_X7_mostOf_31]
      simp (disch := omega) only [gd_t, bd_s, nm_W, nm_I, I_add, I_sub, I_mul, I_neg, I_le_t, I_le_f, I_lt_t, I_lt_f, I_eq_t, I_eq_f, I_inb', I_ix', Int.toNat_natCast, decide_true, decide_false, Bool.not_false, Bool.not_true, if_true, if_false, wi_eq, wi_eq', wi_ne, wi_row, wi_2, N0, N1, N2, N3, N4, N5, N6, N7, N8, N9, N10, N11, N12, N13, N14, N15, N16, N17, N18, N19, N20, N21, N22, N23, N24, N25, N26, N27, N28, N29, N30, N31, N32, N33, N34, N35, N36, N37, N38, N39, N40, N41, N42, N43, N45, N48, N57, N59, N88, N89, N97, N99, N120, N121, N122, N179, N200, N255, N300, N400, N880, N900, N999, N1019, N50000000, N100000000, N1000000000, N2147483647, N2147483648, h.1, eb]
    | false =>
      obtain ⟨σ', q1, q2, q3⟩ := r_rc4 hd hp hq hS r (v + 1) n ((v : Int) + 1) σ (by omega) (by omega) (by omega) h hl (fun w h1 => by rw [hw w h1, rc, hb]; rfl)
      refine ⟨σ', ?_, q2, q3⟩
      rw [hb, show bn false = 0 from rfl] at eb
      rw [← q1, f_X7_mostOf_31]
      simp (disch := omega) only [gd_t, bd_s, nm_W, nm_I, I_add, I_sub, I_mul, I_neg, I_le_t, I_le_f, I_lt_t, I_lt_f, I_eq_t, I_eq_f, I_inb', I_ix', Int.toNat_natCast, decide_true, decide_false, Bool.not_false, Bool.not_true, if_true, if_false, wi_eq, wi_eq', wi_ne, wi_row, wi_2, N0, N1, N2, N3, N4, N5, N6, N7, N8, N9, N10, N11, N12, N13, N14, N15, N16, N17, N18, N19, N20, N21, N22, N23, N24, N25, N26, N27, N28, N29, N30, N31, N32, N33, N34, N35, N36, N37, N38, N39, N40, N41, N42, N43, N45, N48, N57, N59, N88, N89, N97, N99, N120, N121, N122, N179, N200, N255, N300, N400, N880, N900, N999, N1019, N50000000, N100000000, N1000000000, N2147483647, N2147483648, h.1, eb, f_X7_mostOf_129]
theorem r_rc5 {V q S : Nat} {p : Int} {d : MD} (hd : MDok d V) (hp : R p) (hq : q ≤ 120) (hS : S < 32) :
    ∀ (r u n : Nat) (z : Int) (σ : Wd), z = (u : Int) → u + r = 121 → r < n → RV σ V d → σ.1 102 12 = I p → (∀ w, w < u → σ.1 119 w = I (bn (rc d p S.testBit 0 w))) →
      ∃ σ', f_X7_mostOf_2 n (I (S : Int)) (I (q : Int)) (I z) σ = some (I (bm (rc d p S.testBit V) q : Int), σ') ∧ (∀ k, k ≠ 119 → σ'.1 k = σ.1 k) ∧ σ'.2 = σ.2
  | 0, u, n + 1, z, σ, hz, hu, _, h, hl, hw => by
    have h5 := hd.1
    obtain ⟨σ', q1, q2, q3⟩ := r_rc4 (q := q) hd hp hq hS V 0 FU 0 σ rfl (by omega) (by show _ < 6000; omega) h hl (fun w h1 => hw w (by omega))
    refine ⟨σ', ?_, q2, q3⟩
    rw [← q1, f_X7_mostOf_2]
    simp (disch := omega) only [gd_t, bd_s, nm_W, nm_I, I_add, I_sub, I_mul, I_neg, I_le_t, I_le_f, I_lt_t, I_lt_f, I_eq_t, I_eq_f, I_inb', I_ix', Int.toNat_natCast, decide_true, decide_false, Bool.not_false, Bool.not_true, if_true, if_false, wi_eq, wi_eq', wi_ne, wi_row, wi_2, N0, N1, N2, N3, N4, N5, N6, N7, N8, N9, N10, N11, N12, N13, N14, N15, N16, N17, N18, N19, N20, N21, N22, N23, N24, N25, N26, N27, N28, N29, N30, N31, N32, N33, N34, N35, N36, N37, N38, N39, N40, N41, N42, N43, N45, N48, N57, N59, N88, N89, N97, N99, N120, N121, N122, N179, N200, N255, N300, N400, N880, N900, N999, N1019, N50000000, N100000000, N1000000000, N2147483647, N2147483648]
  | r + 1, u, n + 1, z, σ, hz, hu, hn, h, hl, hw => by
    have tz : z.toNat = u := by omega
    obtain ⟨σ', q1, q2, q3⟩ := r_rc5 (q := q) hd hp hq hS r (u + 1) n (z + 1) (wi σ 119 u (I (bn (rc d p S.testBit 0 u)))) (by omega) (by omega) (by omega)
      (RV_congr h (by rw [wi_row (by decide)]) (wi_row (by decide)) (wi_row (by decide)) (wi_row (by decide))) (by rw [wi_row (by decide)]; exact hl)
      (fun w h1 => by
        by_cases c : w = u
        · subst c; rw [wi_eq]
        · rw [wi_ne c]; exact hw w (by omega))
    refine ⟨σ', ?_, fun k hk => by rw [q2 k hk, wi_row hk], by rw [q3, wi_2]⟩
    rw [← q1, f_X7_mostOf_2]
    by_cases c : u = 0
    · rw [show rc d p S.testBit 0 u = true from decide_eq_true c]
      have e := bn_nar true
      rw [show bn true = 1 from rfl] at e
      simp (disch := omega) only [gd_t, bd_s, nm_W, nm_I, I_add, I_sub, I_mul, I_neg, I_le_t, I_le_f, I_lt_t, I_lt_f, I_eq_t, I_eq_f, I_inb', I_ix', Int.toNat_natCast, decide_true, decide_false, Bool.not_false, Bool.not_true, if_true, if_false, wi_eq, wi_eq', wi_ne, wi_row, wi_2, N0, N1, N2, N3, N4, N5, N6, N7, N8, N9, N10, N11, N12, N13, N14, N15, N16, N17, N18, N19, N20, N21, N22, N23, N24, N25, N26, N27, N28, N29, N30, N31, N32, N33, N34, N35, N36, N37, N38, N39, N40, N41, N42, N43, N45, N48, N57, N59, N88, N89, N97, N99, N120, N121, N122, N179, N200, N255, N300, N400, N880, N900, N999, N1019, N50000000, N100000000, N1000000000, N2147483647, N2147483648, f_X7_mostOf_22, tz, e, show bn true = 1 from rfl]
    · rw [show rc d p S.testBit 0 u = false from decide_eq_false c]
      have e := bn_nar false
      rw [show bn false = 0 from rfl] at e
      simp (disch := omega) only [gd_t, bd_s, nm_W, nm_I, I_add, I_sub, I_mul, I_neg, I_le_t, I_le_f, I_lt_t, I_lt_f, I_eq_t, I_eq_f, I_inb', I_ix', Int.toNat_natCast, decide_true, decide_false, Bool.not_false, Bool.not_true, if_true, if_false, wi_eq, wi_eq', wi_ne, wi_row, wi_2, N0, N1, N2, N3, N4, N5, N6, N7, N8, N9, N10, N11, N12, N13, N14, N15, N16, N17, N18, N19, N20, N21, N22, N23, N24, N25, N26, N27, N28, N29, N30, N31, N32, N33, N34, N35, N36, N37, N38, N39, N40, N41, N42, N43, N45, N48, N57, N59, N88, N89, N97, N99, N120, N121, N122, N179, N200, N255, N300, N400, N880, N900, N999, N1019, N50000000, N100000000, N1000000000, N2147483647, N2147483648, f_X7_mostOf_22, tz, e, show bn false = 0 from rfl]
theorem rMostOf {V q S : Nat} {p : Int} {d : MD} {σ : Wd} (hd : MDok d V) (hp : R p) (hq : q ≤ 120) (hS : S < 32) (h : RV σ V d) (hl : σ.1 102 12 = I p) :
    ∃ σ', f_X7_mostOf (I (S : Int)) (I (q : Int)) σ = some (I (bm (rc d p S.testBit V) q : Int), σ') ∧ (∀ k, k ≠ 119 → σ'.1 k = σ.1 k) ∧ σ'.2 = σ.2 :=
  r_rc5 hd hp hq hS 121 0 FU 0 σ rfl rfl (by decide) h hl (fun w hw => absurd hw (by omega))

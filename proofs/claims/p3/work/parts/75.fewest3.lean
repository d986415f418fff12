/-! PURE: the reference's fewest, whole -/
theorem pow_sh : ∀ V, V ≤ 5 → (1 : Int32) <<< (I ((V : Nat) : Int) &&& 31) = I ((2 ^ V : Nat) : Int) := by decide
theorem pow_le : ∀ V, V ≤ 5 → 2 ^ V ≤ 32 := by decide
theorem full_bit : ∀ V, V ≤ 5 → ∀ v, v < V → (2 ^ V - 1).testBit v = true := by decide
theorem r_fe1 {V S : Nat} {x1 x3 x4 : Int32} {k42 : Int32 → Int32 → Int32 → Int32 → Wd → Option (Int32 × Wd)} {σ : Wd} (hV : V ≤ 5) (hS : S < 32) (h : σ.1 102 14 = I (V : Int)) :
    ∀ (r v n : Nat) (z c : Int), z = (v : Int) → c = cnt S.testBit v → v + r = V → r < n →
      f_X7_fewest_59 k42 n x1 x3 x4 (I (S : Int)) (I c) (I z) σ = if x4 ≤ I (cnt S.testBit V) then f_X7_fewest_108 k42 x1 x3 x4 (I (S : Int)) σ else bd (f_X7_mostOf (I (S : Int)) x1 σ) fun r1 σ2 => if r1 = x3 then (f_X7_fewest_108 k42 x1 x3 (I (cnt S.testBit V)) (I (S : Int)) σ2) else (f_X7_fewest_108 k42 x1 x3 x4 (I (S : Int)) σ2)
  | 0, v, n + 1, z, c, hz, hc, hv, _ => by
    have hv : v = V := by omega
    subst hv
    have b : I (v : Int) ≤ I z := by rw [hz]; exact (I_le (by unfold R; omega) (by unfold R; omega)).mpr (Int.le_refl _)
    rw [f_X7_fewest_59]
    dsimp only
    rw [h, if_pos b, ← hc]
  | r + 1, v, n + 1, z, c, hz, hc, hv, hn => by
    subst hz
    have b : ¬ I (V : Int) ≤ I (v : Int) := by rw [I_le (by unfold R; omega) (by unfold R; omega)]; omega
    have eb := bit_get S hS v (by omega)
    rw [f_X7_fewest_59]
    dsimp only
    rw [h, if_neg b, eb, I_add, show (1 : Int32) = I 1 from rfl, I_add]
    exact r_fe1 hV hS h r (v + 1) n _ _ (by omega) (by rw [hc]; rfl) (by omega) (by omega)
theorem r_fe2 {V q : Nat} {p c : Int} {d : MD} (hd : MDok d V) (hp : R p) (hq : q ≤ 120) (hc : fw d p V (bu (fw d p V) q) = some c) :
    ∀ (r S n : Nat) (z x4 : Int) (σ : Wd), z = (S : Int) → S + r = 2 ^ V → r < n → RV σ V d → σ.1 102 12 = I p → c ≤ x4 → x4 ≤ 5 → (∀ T, T < S → rc d p T.testBit V (bu (fw d p V) q) = true → x4 ≤ cnt T.testBit V) →
      ∃ σ', f_X7_fewest_42 n (I (q : Int)) (I (bu (fw d p V) q : Int)) (I x4) (I z) σ = bd (f_X7_good (I c) σ') (fun r1 σ2 => some (r1, σ2)) ∧ (∀ k, k ≠ 119 → σ'.1 k = σ.1 k) ∧ σ'.2 = σ.2
  | 0, S, n + 1, z, x4, σ, hz, hS, _, h, hl, h1, h2, hT => by
    have h5 := hd.1
    have p32 := pow_le V h5
    obtain ⟨T, t1, t2, t3⟩ := fw_rc V _ c h5 hc
    have := hT T (by omega) t2
    have e : x4 = c := by omega
    refine ⟨σ, ?_, fun _ _ => rfl, rfl⟩
    have b : I ((2 ^ V : Nat) : Int) ≤ I z := by rw [hz, I_le (by unfold R; omega) (by unfold R; omega)]; omega
    rw [f_X7_fewest_42]
    dsimp only
    rw [h.1, pow_sh V h5, if_pos b, e]
  | r + 1, S, n + 1, z, x4, σ, hz, hS, hn, h, hl, h1, h2, hT => by
    subst hz
    have h5 := hd.1
    have p32 := pow_le V h5
    have cb := cnt_bnd (s := S.testBit) V
    have ob := fw_OB V _ c hc
    have b : ¬ I ((2 ^ V : Nat) : Int) ≤ I (S : Int) := by rw [I_le (by unfold R; omega) (by unfold R; omega)]; omega
    have e1 := r_fe1 (x1 := I (q : Int)) (x3 := I (bu (fw d p V) q : Int)) (x4 := I x4) (k42 := f_X7_fewest_42 n) (S := S) h5 (by omega) h.1 V 0 FU 0 0 rfl rfl (by omega) (by show _ < 6000; omega)
    have st : f_X7_fewest_42 (n + 1) (I (q : Int)) (I (bu (fw d p V) q : Int)) (I x4) (I (S : Int)) σ = f_X7_fewest_59 (f_X7_fewest_42 n) FU (I (q : Int)) (I (bu (fw d p V) q : Int)) (I x4) (I (S : Int)) (I 0) (I 0) σ := by
      rw [f_X7_fewest_42]
      dsimp only
      rw [h.1, pow_sh V h5, if_neg b]
      rfl
    rw [st, e1]
    by_cases c1 : x4 ≤ cnt S.testBit V
    · rw [if_pos ((I_le (by unfold R; omega) (by unfold R; omega)).mpr c1)]
      unfold f_X7_fewest_108
      rw [show (1 : Int32) = I 1 from rfl, I_add]
      exact r_fe2 hd hp hq hc r (S + 1) n _ x4 σ (by omega) (by omega) (by omega) h hl h1 h2 (fun T t1 t2 => by
        by_cases c2 : T = S
        · subst c2; exact c1
        · exact hT T (by omega) t2)
    · rw [if_neg (by rw [I_le (by unfold R; omega) (by unfold R; omega)]; exact c1)]
      obtain ⟨τ, t1, t2, t3⟩ := rMostOf (q := q) (S := S) hd hp hq (by omega) h hl
      have h' : RV τ V d := RV_congr h (by rw [t2 102 (by decide)]) (t2 103 (by decide)) (t2 104 (by decide)) (t2 112 (by decide))
      have hl' : τ.1 102 12 = I p := by rw [t2 102 (by decide)]; exact hl
      rw [t1, bd_s]
      have ml := bm_le (f := rc d p S.testBit V) q
      have mf := bu_le (f := fw d p V) q
      have key : bm (rc d p S.testBit V) q = bu (fw d p V) q ↔ rc d p S.testBit V (bu (fw d p V) q) = true := by
        constructor
        · intro e
          have := bm_at (f := rc d p S.testBit V) (rc_0 V) q
          rw [e] at this
          exact this
        · intro e
          have g1 := bm_ge e q mf
          have g2 := bm_at (f := rc d p S.testBit V) (rc_0 V) q
          obtain ⟨x, hx, -⟩ := rc_fw V _ g2
          have g3 := bu_ge (f := fw d p V) (w := bm (rc d p S.testBit V) q) (by rw [hx]; exact fun h => by cases h) q ml
          omega
      by_cases c2 : bm (rc d p S.testBit V) q = bu (fw d p V) q
      · rw [if_pos (by rw [c2])]
        unfold f_X7_fewest_108
        rw [show (1 : Int32) = I 1 from rfl, I_add]
        obtain ⟨x, hx, hx2⟩ := rc_fw V _ (key.mp c2)
        rw [hc] at hx
        cases hx
        obtain ⟨σ', q1, q2, q3⟩ := r_fe2 hd hp hq hc r (S + 1) n ((S : Int) + 1) (cnt S.testBit V) τ (by omega) (by omega) (by omega) h' hl' hx2 (by omega) (fun T g1 g2 => by
          by_cases c3 : T = S
          · subst c3; exact Int.le_refl _
          · have := hT T (by omega) g2
            omega)
        exact ⟨σ', q1, fun k hk => by rw [q2 k hk, t2 k hk], by rw [q3, t3]⟩
      · rw [if_neg (fun q => c2 (by have := (I_eq (by unfold R; omega) (by unfold R; omega)).mp q; omega))]
        unfold f_X7_fewest_108
        rw [show (1 : Int32) = I 1 from rfl, I_add]
        obtain ⟨σ', q1, q2, q3⟩ := r_fe2 hd hp hq hc r (S + 1) n ((S : Int) + 1) x4 τ (by omega) (by omega) (by omega) h' hl' h1 h2 (fun T g1 g2 => by
          by_cases c3 : T = S
          · subst c3; exact absurd (key.mpr g2) c2
          · exact hT T (by omega) g2)
        exact ⟨σ', q1, fun k hk => by rw [q2 k hk, t2 k hk], by rw [q3, t3]⟩
/-- behind the refusals -/
def r_few (a1 : Int32) (σ3 : Wd) : Option (Int32 × Wd) := bd (f_X7_mostOf (((1 : Int32) <<< ((σ3.1 102 14) &&& 31)) - (1 : Int32)) a1 σ3) fun r4 σ5 => (f_X7_fewest_42 FU a1 r4 (5 : Int32) (0 : Int32) σ5)
theorem rFewest {V q : Nat} {p : Int} {d : MD} {σ : Wd} (hd : MDok d V) (hp : R p) (hq : q ≤ 120) (h : RV σ V d) (hl : σ.1 102 12 = I p) :
    ∃ σ', r_few (I (q : Int)) σ = bd (f_X7_good (I (enc 1000000000 (fw d p V (bu (fw d p V) q)))) σ') (fun r1 σ2 => some (r1, σ2)) ∧ (∀ k, k ≠ 119 → σ'.1 k = σ.1 k) ∧ σ'.2 = σ.2 := by
  have h5 := hd.1
  have p32 := pow_le V h5
  have p1 : 0 < 2 ^ V := Nat.pow_pos (by decide)
  obtain ⟨τ, t1, t2, t3⟩ := rMostOf (q := q) (S := 2 ^ V - 1) hd hp hq (by omega) h hl
  have ef : bm (rc d p (2 ^ V - 1).testBit V) q = bu (fw d p V) q := by
    have : rc d p (2 ^ V - 1).testBit V = rc d p (fun _ => true) V := funext (fun u => rc_congr V u (fun w hw => full_bit V h5 w hw))
    rw [this, bm_full]
  rw [ef] at t1
  have hn : fw d p V (bu (fw d p V) q) ≠ none := bu_some (by rw [fw_0]; exact fun h => by cases h) q
  obtain ⟨c, hc⟩ := Option.ne_none_iff_exists'.mp hn
  have ob := fw_OB V _ c hc
  obtain ⟨σ', q1, q2, q3⟩ := r_fe2 hd hp hq hc (2 ^ V) 0 FU 0 5 τ rfl (by omega) (by show _ < 6000; omega) (RV_congr h (by rw [t2 102 (by decide)]) (t2 103 (by decide)) (t2 104 (by decide)) (t2 112 (by decide))) (by rw [t2 102 (by decide)]; exact hl) (by omega) (by omega) (fun T g => absurd g (by omega))
  refine ⟨σ', ?_, fun k hk => by rw [q2 k hk, t2 k hk], by rw [q3, t3]⟩
  unfold r_few
  rw [h.1, pow_sh V h5, show (1 : Int32) = I 1 from rfl, I_sub, show (((2 ^ V : Nat) : Int) - 1) = ((2 ^ V - 1 : Nat) : Int) from by omega, t1, bd_s, hc]
  exact q1

/-! PURE: one row of the best split: what the class' and the reference's loops find -/
def enc (B : Int) : Option Int → Int
  | none => B
  | some x => x
def OB (b : Int) (o : Option Int) : Prop := ∀ x, o = some x → -b ≤ x ∧ x ≤ b
theorem OB_omin {b : Int} {o p : Option Int} (ho : OB b o) (hp : OB b p) : OB b (omin o p) := by
  cases o with
  | none => rw [none_omin]; exact hp
  | some x =>
    cases p with
    | none => rw [omin_none]; exact ho
    | some y =>
      intro z hz
      have hz : some (if y < x then y else x) = some z := hz
      have hz := Option.some.inj hz
      have h1 := ho x rfl
      have h2 := hp y rfl
      split at hz <;> omega
theorem enc_R {B b : Int} {o : Option Int} (h : OB b o) (hb : b < 2147483648) (hB : R B) : R (enc B o) := by
  cases o with
  | none => exact hB
  | some x =>
    have := h x rfl
    show R x
    unfold R
    omega
set_option maxHeartbeats 1000000 in
theorem lc1 {σ : Wd} {v u l K : Nat} {c : Nat → Int} {g : Nat → Option Int} (hv : v < 5) (hu : u ≤ 120) (hl : 1 ≤ l) (hl2 : l ≤ 20) (hK : K * l ≤ u)
    (hc : ∀ i, i ≤ K → σ.1 7 (121 * v + i * l) = I (c i)) (hcb : ∀ i, i ≤ K → -10000000 ≤ c i ∧ c i ≤ 10000000)
    (hg : ∀ i, i ≤ K → σ.1 8 (121 * (v + 1) + u - i * l) = I (enc 1000000000 (g i))) (hgb : ∀ i, i ≤ K → OB 10000000 (g i)) :
    ∀ (r i n : Nat) (acc : Option Int), r < n → i + r = K + 1 → OB 20000000 acc →
      f_X1_leastCostFrom_29 n (I (v : Int)) (I (u : Int)) (I (l : Int)) (I (enc 1000000000 acc)) (I ((K * l : Nat) : Int)) (I ((i * l : Nat) : Int)) σ = some (I (enc 1000000000 (amn (fun i => oadd (c i) (g i)) r i acc)), σ)
  | 0, i, n + 1, acc, _, hi, ha => by
    have hi : i = K + 1 := by omega
    subst hi
    have e : (K + 1) * l = K * l + l := Nat.succ_mul K l
    have b1 : I ((K * l : Nat) : Int) < I (((K + 1) * l : Nat) : Int) := by
      rw [I_lt (by unfold R; omega) (by unfold R; omega)]; omega
    rw [f_X1_leastCostFrom_29]
    dsimp only
    rw [if_pos b1]
    rfl
  | r + 1, i, n + 1, acc, hn, hi, ha => by
    have hiK : i ≤ K := by omega
    have m1 : i * l ≤ K * l := Nat.mul_le_mul_right l hiK
    have e : (i + 1) * l = i * l + l := Nat.succ_mul i l
    have b1 : ¬ I ((K * l : Nat) : Int) < I ((i * l : Nat) : Int) := by
      rw [I_lt (by unfold R; omega) (by unfold R; omega)]; omega
    have x1 : ((I (v : Int) + (1 : Int32)) * (121 : Int32) + I (u : Int)) - I ((i * l : Nat) : Int) = I ((121 * (v + 1) + u - i * l : Nat) : Int) := by
      rw [show (1 : Int32) = I 1 from rfl, show (121 : Int32) = I 121 from rfl, I_add, I_mul, I_add, I_sub]
      congr 1
      omega
    have x2 : I (v : Int) * (121 : Int32) + I ((i * l : Nat) : Int) = I ((121 * v + i * l : Nat) : Int) := by
      rw [show (121 : Int32) = I 121 from rfl, I_mul, I_add]
      congr 1
      omega
    have x3 : I ((i * l : Nat) : Int) + I (l : Int) = I (((i + 1) * l : Nat) : Int) := by
      rw [I_add]
      congr 1
      omega
    have a1 := inI (n := 121 * (v + 1) + u - i * l) (N := 726) (by omega) (by omega)
    have a2 := inI (n := 121 * v + i * l) (N := 605) (by omega) (by omega)
    have a3 := ixI (n := 121 * (v + 1) + u - i * l) (by omega)
    have a4 := ixI (n := 121 * v + i * l) (by omega)
    have gb := hgb i hiK
    have cb := hcb i hiK
    rw [f_X1_leastCostFrom_29]
    dsimp only
    rw [if_neg b1]
    simp only [x1, x2, a1, a2, a3, a4, hg i hiK, hc i hiK, f_X1_leastCostFrom_98, x3]
    unfold amn
    cases hgi : g i with
    | none =>
      have b2 : (1000000000 : Int32) ≤ I (enc 1000000000 none) := by
        show I 1000000000 ≤ I 1000000000
        rw [I_le (by unfold R; omega) (by unfold R; omega)]; omega
      show gd true (if (1000000000 : Int32) ≤ I (enc 1000000000 none) then _ else _) = _
      rw [if_pos b2]
      show f_X1_leastCostFrom_29 n _ _ _ _ _ _ σ = _
      rw [lc1 hv hu hl hl2 hK hc hcb hg hgb r (i + 1) n acc (by omega) (by omega) ha]
      rw [show oadd (c i) none = none from rfl, omin_none]
    | some y =>
      have yb := gb y hgi
      have b2 : ¬ (1000000000 : Int32) ≤ I (enc 1000000000 (some y)) := by
        show ¬ I 1000000000 ≤ I y
        rw [I_le (by unfold R; omega) (by unfold R; omega)]; omega
      have ob : OB 20000000 (oadd (c i) (some y)) := by
        intro z hz
        have hz : some (c i + y) = some z := hz
        have hz := Option.some.inj hz
        omega
      have sm : I (c i) + I (enc 1000000000 (some y)) = I (c i + y) := I_add _ _
      have b3 : (I (enc 1000000000 acc) ≤ I (c i + y)) ↔ enc 1000000000 acc ≤ c i + y :=
        I_le (enc_R ha (by omega) (by unfold R; omega)) (by unfold R; omega)
      have ih := lc1 hv hu hl hl2 hK hc hcb hg hgb r (i + 1) n (omin acc (oadd (c i) (some y))) (by omega) (by omega) (OB_omin ha ob)
      show gd true (if (1000000000 : Int32) ≤ I (enc 1000000000 (some y)) then _ else _) = _
      rw [if_neg b2, ← ih]
      simp only [sm, b3]
      show (if enc 1000000000 acc ≤ c i + y then _ else _) = _
      by_cases q : enc 1000000000 acc ≤ c i + y
      · rw [if_pos q]
        have : omin acc (oadd (c i) (some y)) = acc := by
          cases acc with
          | none => exact absurd q (by show ¬ (1000000000 : Int) ≤ _; omega)
          | some x =>
            have q : x ≤ c i + y := q
            show some (if c i + y < x then c i + y else x) = some x
            rw [if_neg (by omega)]
        rw [this]
      · rw [if_neg q]
        have : omin acc (oadd (c i) (some y)) = some (c i + y) := by
          cases acc with
          | none => rfl
          | some x =>
            have q : ¬ x ≤ c i + y := q
            show some (if c i + y < x then c i + y else x) = some (c i + y)
            rw [if_pos (by omega)]
        rw [this]
        rfl

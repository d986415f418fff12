/-! PURE: the least of some numbers, none being more than any; the best split, from the last venue to the first -/
def omin : Option Int → Option Int → Option Int
  | none, b => b
  | a, none => a
  | some x, some y => some (if y < x then y else x)
def oadd (c : Int) : Option Int → Option Int
  | none => none
  | some x => some (c + x)
theorem omin_none (a : Option Int) : omin a none = a := by cases a <;> rfl
theorem none_omin (a : Option Int) : omin none a = a := by cases a <;> rfl
theorem omin_comm (a b : Option Int) : omin a b = omin b a := by
  cases a <;> cases b <;> try rfl
  rename_i x y
  show some _ = some _
  congr 1
  split <;> split <;> omega
theorem omin_assoc (a b c : Option Int) : omin (omin a b) c = omin a (omin b c) := by
  cases a with
  | none => rw [none_omin, none_omin]
  | some x =>
    cases b with
    | none => rw [omin_none, none_omin]
    | some y =>
      cases c with
      | none => rw [omin_none, omin_none]
      | some z =>
        show some _ = some _
        congr 1
        by_cases h1 : y < x
        · rw [if_pos h1]
          by_cases h2 : z < y
          · rw [if_pos h2, if_pos (show z < x by omega)]
          · rw [if_neg h2, if_pos h1]
        · rw [if_neg h1]
          by_cases h2 : z < y
          · rw [if_pos h2]
          · rw [if_neg h2, if_neg h1, if_neg (show ¬ z < x by omega)]
/-- the least of f 0 .. f K -/
def mnf (f : Nat → Option Int) : Nat → Option Int
  | 0 => f 0
  | K + 1 => omin (mnf f K) (f (K + 1))
/-- upwards from i, r of them -/
def amn (f : Nat → Option Int) : Nat → Nat → Option Int → Option Int
  | 0, _, acc => acc
  | r + 1, i, acc => amn f r (i + 1) (omin acc (f i))
/-- downwards from i to 0 -/
def dmn (f : Nat → Option Int) : Nat → Option Int → Option Int
  | 0, acc => omin acc (f 0)
  | i + 1, acc => dmn f i (omin acc (f (i + 1)))
theorem dmn_eq (f : Nat → Option Int) : ∀ (i : Nat) (acc : Option Int), dmn f i acc = omin acc (mnf f i)
  | 0, _ => rfl
  | i + 1, acc => by
    unfold dmn mnf
    rw [dmn_eq f i, omin_assoc, omin_comm (f (i + 1))]
theorem amn_eq (f : Nat → Option Int) : ∀ (r i : Nat), amn f r (i + 1) (mnf f i) = mnf f (i + r)
  | 0, _ => rfl
  | r + 1, i => by
    unfold amn
    rw [show omin (mnf f i) (f (i + 1)) = mnf f (i + 1) from rfl, amn_eq f r (i + 1)]
    congr 1
    omega
theorem amn_0 (f : Nat → Option Int) (K : Nat) : amn f (K + 1) 0 none = mnf f K := by
  unfold amn
  rw [none_omin, show f 0 = mnf f 0 from rfl, amn_eq f K 0, Nat.zero_add]
theorem mnf_le {f : Nat → Option Int} {x : Int} : ∀ {K : Nat}, mnf f K = some x → ∀ i, i ≤ K → ∀ y, f i = some y → x ≤ y
  | 0, h, i, hi, y, hy => by
    have : i = 0 := by omega
    subst this
    have h : f 0 = some x := h
    rw [h] at hy
    cases hy
    exact Int.le_refl _
  | K + 1, h, i, hi, y, hy => by
    have h : omin (mnf f K) (f (K + 1)) = some x := h
    cases h1 : mnf f K with
    | none =>
      rw [h1, none_omin] at h
      by_cases e : i = K + 1
      · subst e
        rw [h] at hy
        cases hy
        exact Int.le_refl _
      · exact absurd hy (by rw [mnf_none h1 i (by omega)]; exact fun h => by cases h)
    | some z =>
      have ih := mnf_le h1
      cases h2 : f (K + 1) with
      | none =>
        rw [h1, h2] at h
        have h : some z = some x := h
        cases h
        by_cases e : i = K + 1
        · subst e
          rw [h2] at hy
          cases hy
        · exact ih i (by omega) y hy
      | some w =>
        rw [h1, h2] at h
        have h : some (if w < z then w else z) = some x := h
        have h := Option.some.inj h
        by_cases e : i = K + 1
        · subst e
          rw [h2] at hy
          cases hy
          split at h <;> omega
        · have := ih i (by omega) y hy
          split at h <;> omega
where
  mnf_none {f : Nat → Option Int} : ∀ {K : Nat}, mnf f K = none → ∀ i, i ≤ K → f i = none
  | 0, h, i, hi => by
    have : i = 0 := by omega
    subst this
    exact h
  | K + 1, h, i, hi => by
    have h : omin (mnf f K) (f (K + 1)) = none := h
    cases h1 : mnf f K with
    | none =>
      rw [h1, none_omin] at h
      by_cases e : i = K + 1
      · subst e; exact h
      · exact mnf_none h1 i (by omega)
    | some z =>
      cases h2 : f (K + 1) with
      | none => rw [h1, h2] at h; cases h
      | some w => rw [h1, h2] at h; cases h
theorem mnf_at {f : Nat → Option Int} {x : Int} : ∀ {K : Nat}, mnf f K = some x → ∃ i, i ≤ K ∧ f i = some x
  | 0, h => ⟨0, Nat.le_refl 0, h⟩
  | K + 1, h => by
    have h : omin (mnf f K) (f (K + 1)) = some x := h
    cases h1 : mnf f K with
    | none =>
      rw [h1, none_omin] at h
      exact ⟨K + 1, Nat.le_refl _, h⟩
    | some z =>
      cases h2 : f (K + 1) with
      | none =>
        rw [h1, h2] at h
        have h : some z = some x := h
        rw [h] at h1
        obtain ⟨i, hi, hf⟩ := mnf_at h1
        exact ⟨i, by omega, hf⟩
      | some w =>
        rw [h1, h2] at h
        have h : some (if w < z then w else z) = some x := h
        have h := Option.some.inj h
        by_cases c : w < z
        · rw [if_pos c] at h
          exact ⟨K + 1, Nat.le_refl _, by rw [h2, h]⟩
        · rw [if_neg c] at h
          rw [h] at h1
          obtain ⟨i, hi, hf⟩ := mnf_at h1
          exact ⟨i, by omega, hf⟩

/-! PURE: the text: words as lists of letters (the last first), as class and reference number them -/
def rl (f : Nat → Int) : Nat → List Int
  | 0 => []
  | n + 1 => f n :: rl f n
def w27 : List Int → Int
  | [] => 0
  | c :: l => w27 l * 27 + (c - 96)
def w64 : List Int → Int64
  | [] => 0
  | c :: l => (w64 l <<< (8 : Int64)) ||| (I c).toInt64
def n8 : List Int → Nat
  | [] => 0
  | c :: l => n8 l * 256 + c.toNat
def ltr (l : List Int) : Prop := ∀ c, c ∈ l → 97 ≤ c ∧ c ≤ 122
theorem rl_len (f : Nat → Int) : ∀ n, (rl f n).length = n
  | 0 => rfl
  | n + 1 => by
    show (rl f n).length + 1 = n + 1
    rw [rl_len f n]
theorem rl_ext {f g : Nat → Int} : ∀ n, (∀ i, i < n → f i = g i) → rl f n = rl g n
  | 0, _ => rfl
  | n + 1, h => by
    show f n :: rl f n = g n :: rl g n
    rw [h n (by omega), rl_ext n (fun i hi => h i (by omega))]
theorem rl_inj {f g : Nat → Int} : ∀ n, rl f n = rl g n → ∀ i, i < n → f i = g i
  | 0, _, i, hi => absurd hi (by omega)
  | n + 1, h, i, hi => by
    have h : f n :: rl f n = g n :: rl g n := h
    obtain ⟨h1, h2⟩ := List.cons.inj h
    by_cases c : i = n
    · rw [c]; exact h1
    · exact rl_inj n h2 i (by omega)
theorem rl_ltr {f : Nat → Int} : ∀ n, (∀ i, i < n → 97 ≤ f i ∧ f i ≤ 122) → ltr (rl f n)
  | 0, _ => fun c hc => by cases hc
  | n + 1, h => fun c hc => by
    rcases List.mem_cons.mp hc with e | e
    · rw [e]; exact h n (by omega)
    · exact rl_ltr n (fun i hi => h i (by omega)) c e
theorem ltr_tl {c : Int} {l : List Int} (h : ltr (c :: l)) : (97 ≤ c ∧ c ≤ 122) ∧ ltr l := ⟨h c (List.mem_cons.mpr (Or.inl rfl)), fun x hx => h x (List.mem_cons.mpr (Or.inr hx))⟩
theorem w27_b : ∀ (l : List Int), ltr l → 0 ≤ w27 l ∧ w27 l < 27 ^ l.length
  | [], _ => by decide
  | c :: l, h => by
    obtain ⟨h1, h2⟩ := ltr_tl h
    obtain ⟨a, b⟩ := w27_b l h2
    show 0 ≤ w27 l * 27 + (c - 96) ∧ w27 l * 27 + (c - 96) < 27 ^ (l.length + 1)
    rw [Int.pow_succ]
    generalize (27 : Int) ^ l.length = P at *
    omega
theorem w27_6 {l : List Int} (h : ltr l) (hl : l.length ≤ 6) : 0 ≤ w27 l ∧ w27 l ≤ 387420488 := by
  obtain ⟨a, b⟩ := w27_b l h
  have p0 : (27 : Int) ^ 0 = 1 := by decide
  have p1 : (27 : Int) ^ 1 = 27 := by decide
  have p2 : (27 : Int) ^ 2 = 729 := by decide
  have p3 : (27 : Int) ^ 3 = 19683 := by decide
  have p4 : (27 : Int) ^ 4 = 531441 := by decide
  have p5 : (27 : Int) ^ 5 = 14348907 := by decide
  have p6 : (27 : Int) ^ 6 = 387420489 := by decide
  rcases (show l.length = 0 ∨ l.length = 1 ∨ l.length = 2 ∨ l.length = 3 ∨ l.length = 4 ∨ l.length = 5 ∨ l.length = 6 by omega) with e | e | e | e | e | e | e
  · rw [e, p0] at b; omega
  · rw [e, p1] at b; omega
  · rw [e, p2] at b; omega
  · rw [e, p3] at b; omega
  · rw [e, p4] at b; omega
  · rw [e, p5] at b; omega
  · rw [e, p6] at b; omega
theorem w27_inj : ∀ (l k : List Int), ltr l → ltr k → w27 l = w27 k → l = k
  | [], [], _, _, _ => rfl
  | [], c :: k, _, hk, h => by
    obtain ⟨h1, h2⟩ := ltr_tl hk
    have a := (w27_b k h2).1
    have h : (0 : Int) = w27 k * 27 + (c - 96) := h
    omega
  | c :: l, [], hl, _, h => by
    obtain ⟨h1, h2⟩ := ltr_tl hl
    have a := (w27_b l h2).1
    have h : w27 l * 27 + (c - 96) = 0 := h
    omega
  | c :: l, e :: k, hl, hk, h => by
    obtain ⟨h1, h2⟩ := ltr_tl hl
    obtain ⟨h3, h4⟩ := ltr_tl hk
    have h : w27 l * 27 + (c - 96) = w27 k * 27 + (e - 96) := h
    rw [w27_inj l k h2 h4 (by omega), show c = e by omega]
theorem n8_inj : ∀ (l k : List Int), ltr l → ltr k → n8 l = n8 k → l = k
  | [], [], _, _, _ => rfl
  | [], c :: k, _, hk, h => by
    obtain ⟨h1, h2⟩ := ltr_tl hk
    have h : 0 = n8 k * 256 + c.toNat := h
    omega
  | c :: l, [], hl, _, h => by
    obtain ⟨h1, h2⟩ := ltr_tl hl
    have h : n8 l * 256 + c.toNat = 0 := h
    omega
  | c :: l, e :: k, hl, hk, h => by
    obtain ⟨h1, h2⟩ := ltr_tl hl
    obtain ⟨h3, h4⟩ := ltr_tl hk
    have h : n8 l * 256 + c.toNat = n8 k * 256 + e.toNat := h
    rw [n8_inj l k h2 h4 (by omega), show c = e by omega]
theorem n8_b : ∀ (l : List Int), ltr l → n8 l < 256 ^ l.length
  | [], _ => by decide
  | c :: l, h => by
    obtain ⟨h1, h2⟩ := ltr_tl h
    have b := n8_b l h2
    show n8 l * 256 + c.toNat < 256 ^ (l.length + 1)
    rw [Nat.pow_succ]
    generalize 256 ^ l.length = P at *
    omega
theorem n8_5 {l : List Int} (h : ltr l) (hl : l.length ≤ 5) : n8 l < 1099511627776 := by
  have b := n8_b l h
  have q : 256 ^ l.length ≤ 256 ^ 5 := Nat.pow_le_pow_right (by decide) hl
  have p5 : 256 ^ 5 = 1099511627776 := by decide
  omega
theorem c64 : ∀ n : Fin 256, (I ((n.val : Nat) : Int)).toInt64.toBitVec.toNat = n.val := by decide +kernel
theorem w64_n : ∀ (l : List Int), ltr l → l.length ≤ 6 → (w64 l).toBitVec.toNat = n8 l
  | [], _, _ => rfl
  | c :: l, h, hl => by
    obtain ⟨h1, h2⟩ := ltr_tl h
    have hl' : l.length + 1 ≤ 6 := hl
    have ih := w64_n l h2 (by omega)
    have b := n8_5 h2 (by omega)
    have e := c64 ⟨c.toNat, by omega⟩
    have ec : ((c.toNat : Nat) : Int) = c := by omega
    have e : (I c).toInt64.toBitVec.toNat = c.toNat := by rw [← ec]; exact e
    show ((w64 l <<< (8 : Int64)).toBitVec ||| (I c).toInt64.toBitVec).toNat = n8 l * 256 + c.toNat
    have es : (w64 l <<< (8 : Int64)).toBitVec = (w64 l).toBitVec <<< 8 := rfl
    rw [BitVec.toNat_or, e, es, BitVec.toNat_shiftLeft, ih, Nat.mod_eq_of_lt (by rw [Nat.shiftLeft_eq]; omega), ← Nat.shiftLeft_add_eq_or_of_lt (by omega), Nat.shiftLeft_eq]
theorem w64_inj {l k : List Int} (hl : ltr l) (hk : ltr k) (l6 : l.length ≤ 6) (k6 : k.length ≤ 6) (h : w64 l = w64 k) : l = k := by
  refine n8_inj l k hl hk ?_
  rw [← w64_n l hl l6, ← w64_n k hk k6, h]
theorem lg_0 (x y : Int64) : (lg_cmp x y = I 0) = (x = y) := by
  unfold lg_cmp
  by_cases c : x > y
  · rw [if_pos c]
    refine propext ⟨fun h => absurd h (by decide), fun h => ?_⟩
    rw [h] at c
    exact absurd c (by rw [gt_iff_lt]; exact Int64.lt_irrefl)
  · rw [if_neg c]
    by_cases e : x = y
    · rw [if_pos e]; exact propext ⟨fun _ => e, fun _ => rfl⟩
    · rw [if_neg e]; exact propext ⟨fun h => absurd h (by decide), fun h => absurd h e⟩

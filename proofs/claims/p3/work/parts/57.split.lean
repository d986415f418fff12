/-! PURE: one row of the best split: what the class' and the reference's loops find -/
def enc (B : Int) : Option Int → Int
  | none => B
  | some x => x
def OB (b : Int) (o : Option Int) : Prop := ∀ x, o = some x → -b ≤ x ∧ x ≤ b
theorem OB_omin {b : Int} {o p : Option Int} (ho : OB b o) (hp : OB b p) : OB b (omin o p) := by
  cases o with
  | none => rw [none_omin]; exact hp
  | some x =>
    cases p with
    | none => rw [omin_none]; exact ho
    | some y =>
      intro z hz
      have hz : some (if y < x then y else x) = some z := hz
      have hz := Option.some.inj hz
      have h1 := ho x rfl
      have h2 := hp y rfl
      split at hz <;> omega
theorem enc_R {B b : Int} {o : Option Int} (h : OB b o) (hb : b < 2147483648) (hB : R B) : R (enc B o) := by
  cases o with
  | none => exact hB
  | some x =>
    have := h x rfl
    show R x
    unfold R
    omega
set_option maxHeartbeats 1000000 in
theorem lc1 {σ : Wd} {v u l K M : Nat} {c : Nat → Int} {g : Nat → Option Int} (hv : v < 5) (hu : u ≤ 120) (hl : 1 ≤ l) (hl2 : l ≤ 20) (hK : K * l ≤ M) (hM : M < K * l + l) (hMu : M ≤ u)
    (hc : ∀ i, i ≤ K → σ.1 7 (121 * v + i * l) = I (c i)) (hcb : ∀ i, i ≤ K → -10000000 ≤ c i ∧ c i ≤ 10000000)
    (hg : ∀ i, i ≤ K → σ.1 8 (121 * (v + 1) + u - i * l) = I (enc 1000000000 (g i))) (hgb : ∀ i, i ≤ K → OB 10000000 (g i)) :
    ∀ (r i n : Nat) (acc : Option Int), r < n → i + r = K + 1 → OB 20000000 acc →
      f_X1_leastCostFrom_29 n (I (v : Int)) (I (u : Int)) (I (l : Int)) (I (enc 1000000000 acc)) (I (M : Int)) (I ((i * l : Nat) : Int)) σ = some (I (enc 1000000000 (amn (fun i => oadd (c i) (g i)) r i acc)), σ)
  | 0, i, n + 1, acc, _, hi, ha => by
    have hi : i = K + 1 := by omega
    subst hi
    have e : (K + 1) * l = K * l + l := Nat.succ_mul K l
    have b1 : I (M : Int) < I (((K + 1) * l : Nat) : Int) := by
      rw [I_lt (by unfold R; omega) (by unfold R; omega)]; omega
    rw [f_X1_leastCostFrom_29]
    dsimp only
    rw [if_pos b1]
    rfl
  | r + 1, i, n + 1, acc, hn, hi, ha => by
    have hiK : i ≤ K := by omega
    have m1 : i * l ≤ K * l := Nat.mul_le_mul_right l hiK
    have e : (i + 1) * l = i * l + l := Nat.succ_mul i l
    have b1 : ¬ I (M : Int) < I ((i * l : Nat) : Int) := by
      rw [I_lt (by unfold R; omega) (by unfold R; omega)]; omega
    have x1 : ((I (v : Int) + (1 : Int32)) * (121 : Int32) + I (u : Int)) - I ((i * l : Nat) : Int) = I ((121 * (v + 1) + u - i * l : Nat) : Int) := by
      rw [show (1 : Int32) = I 1 from rfl, show (121 : Int32) = I 121 from rfl, I_add, I_mul, I_add, I_sub]
      congr 1
      omega
    have x2 : I (v : Int) * (121 : Int32) + I ((i * l : Nat) : Int) = I ((121 * v + i * l : Nat) : Int) := by
      rw [show (121 : Int32) = I 121 from rfl, I_mul, I_add]
      congr 1
      omega
    have x3 : I ((i * l : Nat) : Int) + I (l : Int) = I (((i + 1) * l : Nat) : Int) := by
      rw [I_add]
      congr 1
      omega
    have a1 := inI (n := 121 * (v + 1) + u - i * l) (N := 726) (by omega) (by omega)
    have a2 := inI (n := 121 * v + i * l) (N := 605) (by omega) (by omega)
    have a3 := ixI (n := 121 * (v + 1) + u - i * l) (by omega)
    have a4 := ixI (n := 121 * v + i * l) (by omega)
    have gb := hgb i hiK
    have cb := hcb i hiK
    rw [f_X1_leastCostFrom_29]
    dsimp only
    rw [if_neg b1]
    simp only [x1, x2, a1, a2, a3, a4, hg i hiK, hc i hiK, f_X1_leastCostFrom_98, x3]
    unfold amn
    cases hgi : g i with
    | none =>
      have b2 : (1000000000 : Int32) ≤ I (enc 1000000000 none) := by
        show I 1000000000 ≤ I 1000000000
        rw [I_le (by unfold R; omega) (by unfold R; omega)]; omega
      show gd true (if (1000000000 : Int32) ≤ I (enc 1000000000 none) then _ else _) = _
      rw [if_pos b2]
      show f_X1_leastCostFrom_29 n _ _ _ _ _ _ σ = _
      rw [lc1 hv hu hl hl2 hK hM hMu hc hcb hg hgb r (i + 1) n acc (by omega) (by omega) ha]
      rw [show oadd (c i) none = none from rfl, omin_none]
    | some y =>
      have yb := gb y hgi
      have b2 : ¬ (1000000000 : Int32) ≤ I (enc 1000000000 (some y)) := by
        show ¬ I 1000000000 ≤ I y
        rw [I_le (by unfold R; omega) (by unfold R; omega)]; omega
      have ob : OB 20000000 (oadd (c i) (some y)) := by
        intro z hz
        have hz : some (c i + y) = some z := hz
        have hz := Option.some.inj hz
        omega
      have sm : I (c i) + I (enc 1000000000 (some y)) = I (c i + y) := I_add _ _
      have b3 : (I (enc 1000000000 acc) ≤ I (c i + y)) ↔ enc 1000000000 acc ≤ c i + y :=
        I_le (enc_R ha (by omega) (by unfold R; omega)) (by unfold R; omega)
      have ih := lc1 hv hu hl hl2 hK hM hMu hc hcb hg hgb r (i + 1) n (omin acc (oadd (c i) (some y))) (by omega) (by omega) (OB_omin ha ob)
      show gd true (if (1000000000 : Int32) ≤ I (enc 1000000000 (some y)) then _ else _) = _
      rw [if_neg b2, ← ih]
      simp only [sm, b3]
      show (if enc 1000000000 acc ≤ c i + y then _ else _) = _
      by_cases q : enc 1000000000 acc ≤ c i + y
      · rw [if_pos q]
        have : omin acc (oadd (c i) (some y)) = acc := by
          cases acc with
          | none => exact absurd q (by show ¬ (1000000000 : Int) ≤ _; omega)
          | some x =>
            have q : x ≤ c i + y := q
            show some (if c i + y < x then c i + y else x) = some x
            rw [if_neg (by omega)]
        rw [this]
      · rw [if_neg q]
        have : omin acc (oadd (c i) (some y)) = some (c i + y) := by
          cases acc with
          | none => rfl
          | some x =>
            have q : ¬ x ≤ c i + y := q
            show some (if c i + y < x then c i + y else x) = some (c i + y)
            rw [if_pos (by omega)]
        rw [this]
        rfl
theorem lc7_end {σ : Wd} {n : Nat} {x1 x2 x4 : Int32} {l : Int} (h1 : 1 ≤ l) (h2 : l ≤ 20) : f_X7_leastFrom_14 (n + 1) x1 x2 x4 (I (0 - l)) σ = some (x4, σ) := by
  have b1 : I (0 - l) < 0 := by
    show I (0 - l) < I 0
    rw [I_lt (by unfold R; omega) (by unfold R; omega)]; omega
  rw [f_X7_leastFrom_14]
  dsimp only
  rw [if_pos b1]
set_option maxHeartbeats 1000000 in
theorem lc7_step {σ : Wd} {V v u l i n : Nat} {d : MD} {gi acc : Option Int} (h : RV σ V d) (hd : MDok d V) (hv : v < V) (hu : u ≤ 120) (hl : d.lo v = (l : Int)) (hi : i * l ≤ u)
    (hg : σ.1 116 (121 * (v + 1) + u - i * l) = I (enc 100000000 gi)) (gb : OB 10000000 gi) (ha : OB 20000000 acc) :
    f_X7_leastFrom_14 (n + 1) (I (v : Int)) (I (u : Int)) (I (enc 100000000 acc)) (I ((i * l : Nat) : Int)) σ
      = f_X7_leastFrom_14 n (I (v : Int)) (I (u : Int)) (I (enc 100000000 (omin acc (oadd (cst d v ((i * l : Nat) : Int)) gi)))) (I (((i * l : Nat) : Int) - (l : Int))) σ
      ∧ OB 20000000 (omin acc (oadd (cst d v ((i * l : Nat) : Int)) gi)) := by
  have v5 : v < 5 := Nat.lt_of_lt_of_le hv hd.1
  obtain ⟨-, lb, -⟩ := hd.2 v hv
  obtain ⟨c1, c2⟩ := cst_bnd (n := ((i * l : Nat) : Int)) hd hv (by omega) (by omega)
  have b1 : ¬ I ((i * l : Nat) : Int) < 0 := by
    show ¬ I ((i * l : Nat) : Int) < I 0
    rw [I_lt (by unfold R; omega) (by unfold R; omega)]; omega
  have x1 : ((121 : Int32) * (I (v : Int) + (1 : Int32)) + I (u : Int)) - I ((i * l : Nat) : Int) = I ((121 * (v + 1) + u - i * l : Nat) : Int) := by
    rw [show (1 : Int32) = I 1 from rfl, show (121 : Int32) = I 121 from rfl, I_add, I_mul, I_add, I_sub]
    congr 1
    omega
  have a1 := inI (n := 121 * (v + 1) + u - i * l) (N := 726) (by omega) (by omega)
  have a3 := ixI (n := 121 * (v + 1) + u - i * l) (by omega)
  have st : ∀ z : Int32, f_X7_leastFrom_71 (f_X7_leastFrom_14 n) (I (v : Int)) (I (u : Int)) z (I ((i * l : Nat) : Int)) σ = f_X7_leastFrom_14 n (I (v : Int)) (I (u : Int)) z (I (((i * l : Nat) : Int) - (l : Int))) σ := by
    intro z
    unfold f_X7_leastFrom_71
    rw [rLot h hd hv, bd_s, hl, I_sub]
  rw [f_X7_leastFrom_14]
  dsimp only
  rw [if_neg b1]
  simp only [x1, a1, a3, hg, st, rCost h hd hv (n := ((i * l : Nat) : Int)) (by omega) (by omega), bd_s]
  cases gi with
  | none =>
    have b2 : ¬ I (enc 100000000 none) < (50000000 : Int32) := by
      show ¬ I 100000000 < I 50000000
      rw [I_lt (by unfold R; omega) (by unfold R; omega)]; omega
    rw [show oadd (cst d v ((i * l : Nat) : Int)) none = none from rfl, omin_none]
    refine ⟨?_, ha⟩
    rw [if_neg b2]
    rfl
  | some y =>
    have yb := gb y rfl
    have b2 : I (enc 100000000 (some y)) < (50000000 : Int32) := by
      show I y < I 50000000
      rw [I_lt (by unfold R; omega) (by unfold R; omega)]; omega
    have ob : OB 20000000 (oadd (cst d v ((i * l : Nat) : Int)) (some y)) := by
      intro z hz
      have hz : some (cst d v ((i * l : Nat) : Int) + y) = some z := hz
      have hz := Option.some.inj hz
      omega
    have sm : I (cst d v ((i * l : Nat) : Int)) + I (enc 100000000 (some y)) = I (cst d v ((i * l : Nat) : Int) + y) := I_add _ _
    have b3 : (I (enc 100000000 acc) ≤ I (cst d v ((i * l : Nat) : Int) + y)) ↔ enc 100000000 acc ≤ cst d v ((i * l : Nat) : Int) + y :=
      I_le (enc_R ha (by omega) (by unfold R; omega)) (by unfold R; omega)
    refine ⟨?_, OB_omin ha ob⟩
    show (if I (enc 100000000 (some y)) < (50000000 : Int32) then _ else _) = _
    rw [if_pos b2]
    simp only [sm, b3]
    by_cases q : enc 100000000 acc ≤ cst d v ((i * l : Nat) : Int) + y
    · rw [if_pos q]
      have : omin acc (oadd (cst d v ((i * l : Nat) : Int)) (some y)) = acc := by
        cases acc with
        | none => exact absurd q (by show ¬ (100000000 : Int) ≤ _; omega)
        | some x =>
          have q : x ≤ cst d v ((i * l : Nat) : Int) + y := q
          show some (if cst d v ((i * l : Nat) : Int) + y < x then cst d v ((i * l : Nat) : Int) + y else x) = some x
          rw [if_neg (by omega)]
      rw [this]
    · rw [if_neg q]
      have : omin acc (oadd (cst d v ((i * l : Nat) : Int)) (some y)) = some (cst d v ((i * l : Nat) : Int) + y) := by
        cases acc with
        | none => rfl
        | some x =>
          have q : ¬ x ≤ cst d v ((i * l : Nat) : Int) + y := q
          show some (if cst d v ((i * l : Nat) : Int) + y < x then cst d v ((i * l : Nat) : Int) + y else x) = some (cst d v ((i * l : Nat) : Int) + y)
          rw [if_pos (by omega)]
      rw [this]
      rfl
theorem lc7 {σ : Wd} {V v u l K : Nat} {d : MD} {g : Nat → Option Int} (h : RV σ V d) (hd : MDok d V) (hv : v < V) (hu : u ≤ 120) (hl : d.lo v = (l : Int)) (hK : K * l ≤ u)
    (hg : ∀ i, i ≤ K → σ.1 116 (121 * (v + 1) + u - i * l) = I (enc 100000000 (g i))) (hgb : ∀ i, i ≤ K → OB 10000000 (g i)) :
    ∀ (i n : Nat) (acc : Option Int), i + 1 < n → i ≤ K → OB 20000000 acc →
      f_X7_leastFrom_14 n (I (v : Int)) (I (u : Int)) (I (enc 100000000 acc)) (I ((i * l : Nat) : Int)) σ = some (I (enc 100000000 (dmn (fun i => oadd (cst d v ((i * l : Nat) : Int)) (g i)) i acc)), σ)
  | i, 0, acc, hn, hi, ha => absurd hn (by omega)
  | i, n + 1, acc, hn, hi, ha => by
    obtain ⟨-, lb, -⟩ := hd.2 v hv
    obtain ⟨e1, e2⟩ := lc7_step (n := n) h hd hv hu hl (Nat.le_trans (Nat.mul_le_mul_right l hi) hK) (hg i hi) (hgb i hi) ha
    rw [e1]
    match i, n, hn, hi, e2 with
    | 0, n + 1, hn, hi, e2 =>
      rw [show (((0 * l : Nat) : Int) - (l : Int)) = 0 - (l : Int) from by rw [Nat.zero_mul]; rfl, lc7_end (by omega) (by omega)]
      rfl
    | i + 1, n, hn, hi, e2 =>
      rw [show ((((i + 1) * l : Nat) : Int) - (l : Int)) = ((i * l : Nat) : Int) from by rw [Nat.succ_mul]; omega]
      rw [lc7 h hd hv hu hl hK hg hgb i n _ (by omega) (by omega) e2]
      rfl
theorem div_box {M l : Nat} (hl : 1 ≤ l) : M / l * l ≤ M ∧ M < M / l * l + l := by
  have e := Nat.div_add_mod M l
  have m := Nat.mod_lt M (show l > 0 by omega)
  rw [Nat.mul_comm] at e
  omega
theorem lc1_ok {σ : Wd} {v u l room : Nat} {c : Nat → Int} {g : Nat → Option Int} (hv : v < 5) (hu : u ≤ 120) (hl : 1 ≤ l) (hl2 : l ≤ 20) (hr : room ≤ 1000) (hm : σ.1 6 v = I (room : Int))
    (hc : ∀ i, i ≤ min u room / l → σ.1 7 (121 * v + i * l) = I (c i)) (hcb : ∀ i, i ≤ min u room / l → -10000000 ≤ c i ∧ c i ≤ 10000000)
    (hg : ∀ i, i ≤ min u room / l → σ.1 8 (121 * (v + 1) + u - i * l) = I (enc 1000000000 (g i))) (hgb : ∀ i, i ≤ min u room / l → OB 10000000 (g i)) :
    f_X1_leastCostFrom (I (v : Int)) (I (u : Int)) (I (l : Int)) σ = some (I (enc 1000000000 (mnf (fun i => oadd (c i) (g i)) (min u room / l))), σ) := by
  obtain ⟨k1, k2⟩ := div_box (M := min u room) hl
  have kl : min u room / l ≤ min u room := Nat.div_le_self _ _
  have a1 := inI (n := v) (N := 5) hv (by omega)
  have a2 := ixI (n := v) (by omega)
  have b1 : (I (u : Int) ≤ I (room : Int)) ↔ (u : Int) ≤ (room : Int) := I_le (by unfold R; omega) (by unfold R; omega)
  have key : f_X1_leastCostFrom_24 (I (v : Int)) (I (u : Int)) (I (l : Int)) (1000000000 : Int32) (I ((min u room : Nat) : Int)) σ = some (I (enc 1000000000 (mnf (fun i => oadd (c i) (g i)) (min u room / l))), σ) := by
    have := lc1 (M := min u room) hv hu hl hl2 k1 k2 (by omega) hc hcb hg hgb (min u room / l + 1) 0 FU none (by show _ < 6000; omega) (by omega) (fun x hx => by cases hx)
    rw [amn_0, Nat.zero_mul] at this
    exact this
  unfold f_X1_leastCostFrom
  simp only [a1, a2, hm, b1]
  show (if (u : Int) ≤ (room : Int) then _ else _) = _
  by_cases q : (u : Int) ≤ (room : Int)
  · rw [if_pos q]
    rw [show min u room = u from by omega] at key ⊢
    exact key
  · rw [if_neg q]
    rw [show min u room = room from by omega] at key ⊢
    exact key
theorem lc7_ok {σ : Wd} {V v u l K : Nat} {p but : Int} {d : MD} {g : Nat → Option Int} (h : RV σ V d) (hd : MDok d V) (hv : v < V) (hp : R p) (hlim : σ.1 102 12 = I p) (hb : R but) (hu : u ≤ 120) (hl : d.lo v = (l : Int)) (hK : K * l ≤ u)
    (hk : (if (v : Int) = but then 0 else whl d p v (u : Int)) = ((K * l : Nat) : Int))
    (hg : ∀ i, i ≤ K → σ.1 116 (121 * (v + 1) + u - i * l) = I (enc 100000000 (g i))) (hgb : ∀ i, i ≤ K → OB 10000000 (g i)) :
    f_X7_leastFrom (I (v : Int)) (I (u : Int)) (I but) σ = some (I (enc 100000000 (mnf (fun i => oadd (cst d v ((i * l : Nat) : Int)) (g i)) K)), σ) := by
  obtain ⟨-, lb, -⟩ := hd.2 v hv
  have kK : K ≤ K * l := Nat.le_mul_of_pos_right K (by omega)
  have := lc7 h hd hv hu hl hK hg hgb K FU none (by show _ < 6000; omega) (Nat.le_refl _) (fun x hx => by cases hx)
  unfold f_X7_leastFrom
  rw [rMost h hd hv hp hlim (q := (u : Int)) (by omega) (by omega) hb, bd_s, hk]
  rw [dmn_eq, none_omin] at this
  exact this

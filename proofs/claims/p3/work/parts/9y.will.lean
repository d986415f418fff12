/-! PURE: will -/
theorem GA_act2 {m V E : Nat} {σ τ σ' τ' : Wd} {pres kp : Bool} {d d' : MD} {p L W W' : Int} {dl pl pl' et : Nat → Int} {b b' : Bool} {t s rd t' s' rd' : Int} {h n g h' n' g' : Nat → Int} {B B' : Int} (hG : GA m σ τ V E pres kp d p L W dl pl et b t s rd h n g B) (hp : pres = true) (hB : B ≤ B')
    (hQ : QQ m 63 σ' τ' V E d' p L W' dl pl' et b' t' s' rd' h' n' g') (ht : t' ≤ B') (c1 : ∀ k, (1 ≤ k ∧ k < 4) ∨ (37 ≤ k ∧ k < 50) ∨ (76 ≤ k ∧ k < 89) → σ'.1 k = σ.1 k) (c2 : ∀ i, i ≠ 12 → σ'.1 0 i = σ.1 0 i) (c3 : σ'.2 = σ.2) (e1 : ∀ k, 103 ≤ k → k < 116 → k ≠ 112 → k ≠ 114 → τ'.1 k = τ.1 k) (e2 : ∀ i, 3 ≤ i → i < 37 ∨ 39 < i → τ'.1 102 i = τ.1 102 i)
    (t1 : σ'.1 0 12 = I 0) (t2 : τ'.1 102 1 = I 0) (t3 : τ'.1 102 2 = I (-1)) : GA m σ' τ' V E pres kp d' p L W' dl pl' et b' t' s' rd' h' n' g' B' := by
  obtain ⟨g1, g2, -, ⟨g5, g6, g7⟩, ⟨g8, g9, g10⟩, ⟨g11, g12⟩, ⟨tp, p1, p2, p3, p4⟩⟩ := hG
  refine ⟨by rw [c3]; exact g1, by rw [c3]; exact g2, ⟨hQ, ht⟩, ⟨by rw [c2 10 (by decide)]; exact g5, by rw [e2 21 (by decide) (by decide)]; exact g6, fun q => by rw [hp] at q; cases q⟩,
    ⟨by rw [c2 11 (by decide)]; exact g8, by rw [e2 25 (by decide) (by decide)]; exact g9, fun q => ⟨hp, KK_congr (g10 q).2 hB (fun k a1 a2 => c1 k (by omega)) (fun k a1 a2 => c1 k (by omega)) (fun i a1 a2 => e2 i (by omega) (by omega)) (e1 103 (by decide) (by decide) (by decide) (by decide)) (e1 104 (by decide) (by decide) (by decide) (by decide)) (e1 105 (by decide) (by decide) (by decide) (by decide)) (e1 113 (by decide) (by decide) (by decide) (by decide))⟩⟩,
    ⟨⟨by rw [t1, t2], fun q => ?_, fun _ => t3⟩, by rw [c2 13 (by decide), e2 33 (by decide) (by decide)]; exact g12⟩, ⟨tp, p1, by rw [c1 1 (by decide)]; exact p2, by rw [e2 27 (by decide) (by decide)]; exact p3, fun i hi => by rw [c1 2 (by decide), e1 115 (by decide) (by decide) (by decide) (by decide)]; exact p4 i hi⟩⟩
  rw [t1, I_eq (by unfold R; omega) (by unfold R; omega)] at q
  omega
/-- what a look ahead leaves alone -/
def TW (σ τ σ' τ' : Wd) : Prop := ((∀ k, k < 4 ∨ 9 < k → k < 50 ∨ 62 < k → k < 89 ∨ 101 < k → σ'.1 k = σ.1 k) ∧ σ'.2 = σ.2) ∧ ((∀ k, k ≠ 102 → k ≠ 112 → k ≠ 116 → k ≠ 117 → τ'.1 k = τ.1 k) ∧ (∀ i, i ≠ 37 → i ≠ 38 → τ'.1 102 i = τ.1 102 i) ∧ τ'.2 = τ.2)
theorem TWt {σ τ σ1 τ1 σ2 τ2 : Wd} (h : TW σ τ σ1 τ1) (g : TW σ1 τ1 σ2 τ2) : TW σ τ σ2 τ2 := ⟨⟨fun k a b c => by rw [g.1.1 k a b c, h.1.1 k a b c], by rw [g.1.2, h.1.2]⟩, ⟨fun k a b c e => by rw [g.2.1 k a b c e, h.2.1 k a b c e], fun i a b => by rw [g.2.2.1 i a b, h.2.2.1 i a b], by rw [g.2.2.2, h.2.2.2]⟩⟩
theorem TWo {σ τ τ1 : Wd} (h : OF τ τ1) : TW σ τ σ τ1 := ⟨⟨fun _ _ _ _ => rfl, rfl⟩, ⟨fun k a _ c e => h.1 k a c e, h.2.1, h.2.2⟩⟩
theorem TWk {σ τ σ' τ' : Wd} (h : TF 50 89 σ τ σ' τ') : TW σ τ σ' τ' := ⟨⟨fun k a b c => h.1.1 k a (by omega) (by omega), h.1.2⟩, h.2⟩
theorem QQ_of {m r V E : Nat} {d : MD} {σ τ τ1 : Wd} {p L W : Int} {dl pl et : Nat → Int} {b : Bool} {t s rd : Int} {h n g : Nat → Int} (hQ : QQ m r σ τ V E d p L W dl pl et b t s rd h n g) (hmr : m + 12 < r) (ho : OF τ τ1) : QQ m r σ τ1 V E d p L W dl pl et b t s rd h n g :=
  QQ_congr hQ hmr (fun _ _ _ => rfl) (fun _ _ _ => rfl) (fun i _ _ => ho.2.1 i (by omega) (by omega)) (ho.1 103 (by decide) (by decide) (by decide)) (ho.1 104 (by decide) (by decide) (by decide)) (ho.1 105 (by decide) (by decide) (by decide)) (ho.1 112 (by decide) (by decide) (by decide))
theorem will_end {V E : Nat} {d : MD} {σ τ : Wd} {p L W w : Int} {dl pl et : Nat → Int} {b : Bool} {t s rd : Int} {h n g : Nat → Int} (hQ : QQ 50 89 σ τ V E d p L W dl pl et b t s rd h n g) (w0 : 0 ≤ w ∧ w ≤ 6) : ∃ (x : Int32) (τ' : Wd), f_X6_will_91 (I w) σ = some (x, σ) ∧ f_X7_will_65 (I w) τ = (bd (f_X7_copies 114 179 112 179 τ') fun _ s => bd (f_X7_good x s) fun r s => some (r, s)) ∧ TW σ τ σ τ' := by
  obtain ⟨τ1, x, e1, e2, e3⟩ := tell_ok hQ w0.1 (by omega)
  refine ⟨x, τ1, ?_, ?_, TWo e3⟩
  · unfold f_X6_will_91
    rw [e1, bd_s]
  · unfold f_X7_will_65
    rw [e2, bd_s]
theorem will_l {V E : Nat} {p L W w : Int} {dl pl et : Nat → Int} (w0 : 0 ≤ w ∧ w ≤ 6) : ∀ (r i k k' : Nat) (z : Int) (d : MD) (σ τ : Wd) (t s rd : Int) (h n g : Nat → Int), z = (i : Int) → i + r = 400 → r < k → r < k' → QQ 50 89 σ τ V E d p L W dl pl et true t s rd h n g → t + r < 1000000 →
    ∃ (x : Int32) (σ' τ' : Wd), f_X6_will_49 k (I w) (I z) σ = some (x, σ') ∧ f_X7_will_40 k' (I w) (I z) τ = (bd (f_X7_copies 114 179 112 179 τ') fun _ s => bd (f_X7_good x s) fun r s => some (r, s)) ∧ TW σ τ σ' τ'
  | 0, i, k + 1, k' + 1, z, d, σ, τ, t, s, rd, h, n, g, hz, hi, _, _, hQ, ht => by
    obtain ⟨x, τ', e1, e2, e3⟩ := will_end hQ w0
    refine ⟨x, σ, τ', ?_, ?_, e3⟩
    · rw [f_X6_will_49]
      dsimp only
      rw [if_pos (show (400 : Int32) ≤ I z by show I 400 ≤ I z; rw [I_le (by unfold R; omega) (by unfold R; omega)]; omega), e1]
    · rw [f_X7_will_40]
      dsimp only
      rw [if_pos (show (400 : Int32) ≤ I z by show I 400 ≤ I z; rw [I_le (by unfold R; omega) (by unfold R; omega)]; omega), e2]
  | r + 1, i, k + 1, k' + 1, z, d, σ, τ, t, s, rd, h, n, g, hz, hi, hk, hk', hQ, ht => by
    obtain ⟨τ1, o, o1, o2, o3⟩ := over_ok hQ
    have nz : ¬ (400 : Int32) ≤ I z := by show ¬ I 400 ≤ I z; rw [I_le (by unfold R; omega) (by unfold R; omega)]; omega
    have hQ1 := QQ_of hQ (by decide) o3
    cases o with
    | true =>
      obtain ⟨x, τ', e1, e2, e3⟩ := will_end hQ1 w0
      refine ⟨x, σ, τ', ?_, ?_, TWt (TWo o3) e3⟩
      · rw [f_X6_will_49]
        dsimp only
        rw [if_neg nz, o1, bd_s, if_neg (show ¬ I (bn true) = (0 : Int32) by decide), e1]
      · rw [f_X7_will_40]
        dsimp only
        rw [if_neg nz, o2, bd_s, if_neg (show ¬ I (bn true) = (0 : Int32) by decide), e2]
    | false =>
      obtain ⟨σ2, τ2, d2, s2, rd2, h2, n2, g2, nb, a1, a2, a3, a4, a5, a6⟩ := tick_ok (by decide) (by decide) hQ1 (by omega)
      obtain ⟨x, σ', τ', e1, e2, e3⟩ := will_l w0 r (i + 1) k k' (z + 1) d2 σ2 τ2 (t + 1) s2 rd2 h2 n2 g2 (by omega) (by omega) (by omega) (by omega) a3 (by omega)
      refine ⟨x, σ', τ', ?_, ?_, TWt (TWo o3) (TWt (TWk a6) e3)⟩
      · rw [f_X6_will_49]
        dsimp only
        rw [if_neg nz, o1, bd_s, if_pos (show I (bn false) = (0 : Int32) from rfl), a1, bd_s, show I z + (1 : Int32) = I (z + 1) from I_add _ 1, e1]
      · rw [f_X7_will_40]
        dsimp only
        rw [if_neg nz, o2, bd_s, if_pos (show I (bn false) = (0 : Int32) from rfl), a2, bd_s, show I z + (1 : Int32) = I (z + 1) from I_add _ 1, e2]
theorem will_r0 {τ : Wd} {w a c : Int} (e : f_X7_in (I w) (I 0) (I 6) (wi τ 102 0 (I 0)) = some (I a, wi τ 102 0 (I 0))) (e2 : f_X7_refusesRun (I a) (wi τ 102 0 (I 0)) = some (I c, wi τ 102 0 (I 0))) (hc : 1 ≤ c ∧ c ≤ 5) : f_X7_will (I w) τ = some (I (-2147483648), refW τ (I c)) := by
  unfold f_X7_will refW
  simp (disch := omega) only [gd_t, bd_s, nm_W, nm_I, I_add, I_sub, I_mul, I_neg, I_le_t, I_le_f, I_lt_t, I_lt_f, I_eq_t, I_eq_f, I_inb', I_ix', Int.toNat_natCast, decide_true, decide_false, Bool.not_false, Bool.not_true, if_true, if_false, wi_eq, wi_eq', wi_ne, wi_row, wi_2, N0, N1, N2, N3, N4, N5, N6, N7, N8, N9, N10, N11, N12, N13, N14, N15, N16, N17, N18, N19, N20, N21, N22, N23, N24, N25, N26, N27, N28, N29, N30, N31, N32, N33, N34, N35, N36, N37, N38, N39, N40, N41, N42, N43, N45, N48, N57, N59, N88, N89, N97, N99, N120, N121, N122, N179, N200, N255, N300, N400, N880, N900, N999, N1019, N50000000, N100000000, N1000000000, N2147483647, N2147483648, e, e2, refL]
theorem will_r1 {τ τ1 : Wd} {w a : Int} (e : f_X7_in (I w) (I 0) (I 6) (wi τ 102 0 (I 0)) = some (I a, wi τ 102 0 (I 0))) (e2 : f_X7_refusesRun (I a) (wi τ 102 0 (I 0)) = some (I 0, wi τ 102 0 (I 0))) (e3 : f_X7_copies 112 179 114 179 (wi τ 102 0 (I 0)) = some (0, τ1)) : f_X7_will (I w) τ = f_X7_will_40 FU (I w) (I 0) τ1 := by
  unfold f_X7_will
  simp (disch := omega) only [gd_t, bd_s, nm_W, nm_I, I_add, I_sub, I_mul, I_neg, I_le_t, I_le_f, I_lt_t, I_lt_f, I_eq_t, I_eq_f, I_inb', I_ix', Int.toNat_natCast, decide_true, decide_false, Bool.not_false, Bool.not_true, if_true, if_false, wi_eq, wi_eq', wi_ne, wi_row, wi_2, N0, N1, N2, N3, N4, N5, N6, N7, N8, N9, N10, N11, N12, N13, N14, N15, N16, N17, N18, N19, N20, N21, N22, N23, N24, N25, N26, N27, N28, N29, N30, N31, N32, N33, N34, N35, N36, N37, N38, N39, N40, N41, N42, N43, N45, N48, N57, N59, N88, N89, N97, N99, N120, N121, N122, N179, N200, N255, N300, N400, N880, N900, N999, N1019, N50000000, N100000000, N1000000000, N2147483647, N2147483648, e, e2, e3]
set_option maxHeartbeats 1000000 in
theorem m_will (x : Int32) : MT (f_X6_will x) (f_X7_will x) := by
  intro σ τ B ⟨m, V, E, pres, kp, d, p, L, W, dl, pl, et, b, t, s, rd, h, n, g, hG⟩ hB
  obtain ⟨w, rfl, hw⟩ := argI x
  obtain ⟨bm, m10, m63⟩ := bMm hG.1
  have m24 : m = 11 ∨ m = 24 := by have := hG.1; omega
  have hQ := hG.2.2.1.1
  have tB := hG.2.2.1.2
  have g21 : (wi τ 102 0 (I 0)).1 102 21 = I (bn pres) := by rw [wi_ne (by decide)]; exact hG.2.2.2.1.2.1
  have g36 : (wi τ 102 0 (I 0)).1 112 36 = I (bn b) := by rw [wi_row (by decide)]; exact hQ.2.2.1.1.2
  have c1 := cWithin (σ := σ) (lo := 0) (hi := 6) hw (by unfold R; omega) (by unfold R; omega)
  have c2 := rIn (σ := wi τ 102 0 (I 0)) (lo := 0) (hi := 6) hw (by unfold R; omega) (by unfold R; omega)
  have er := rRun (τ := wi τ 102 0 (I 0)) (a := bn (decide (0 ≤ w ∧ w ≤ 6))) g21 g36 (bn_bnd _)
  have cb := tc_b (pres := pres) (a := bn (decide (0 ≤ w ∧ w ≤ 6))) (n := 1) (s := bn b)
  obtain ⟨x, σ', τ', k1, k2, k3⟩ := act_ok (B' := B + 200) (a := bn (decide (0 ≤ w ∧ w ≤ 6))) (nn := 1) (ss := bn b) (low := I (-2147483648)) (K := fun σ4 => gd (bM (σ4.2.2 0 4)) (bd (f_X3_copyFrom 50 (σ4.2.2 0 4) σ4) fun _ σ6 => bd (f_X4_copyFrom 89 63 σ6) fun _ σ7 => (f_X6_will_49 FU (I w) (I 0) σ7))) (fr := f_X7_will (I w))
    hG (by omega) (bn_bnd _) (by omega) (bn_bnd _)
    (fun hc => will_r0 c2 er (by omega))
    (fun hp ha _ hs => by
      have y := bn_1 ha
      have bt : b = true := by
        cases e : b with
        | true => rfl
        | false => rw [e] at hs; cases hs
      subst bt
      rw [show tc pres (bn (decide (0 ≤ w ∧ w ≤ 6))) 1 (bn true) = 0 by rw [hp, decide_eq_true y]; decide] at er
      have hm : (wi σ 0 12 (I 0)).2.2 0 4 = m := hG.2.1
      obtain ⟨σ1, a1, a2, a3, a4, a5, a6, a7⟩ := cCopyM (b := 50) (m := m) (σ := wi σ 0 12 (I 0)) (by omega)
      obtain ⟨σ2, b1, b2, b3, b4, b5, b6, b7⟩ := cCopyR (b := 89) (r := 63) (σ := σ1) (x := true) (by omega) (by rw [a6 63 (by omega), wi_row (by decide)]; exact hQ.2.2.1.1.1)
      obtain ⟨τ1, d1, d2, d3, d4⟩ := rCopy (a := 112) (b := 114) (τ := wi τ 102 0 (I 0)) (by decide)
      have so : ∀ k, k ≠ 0 → (wi σ 0 12 (I 0)).1 k = σ.1 k := fun k hk => wi_row hk
      have s50 : ∀ k, 50 ≤ k → k ≤ 62 → σ2.1 k = σ1.1 k := fun k g1 g2 => b6 k (by omega)
      have sr : ∀ k, 63 ≤ k → k ≤ 75 → σ1.1 k = σ.1 k := fun k g1 g2 => by rw [a6 k (by omega), so k (by omega)]
      have t1r : ∀ k, k ≠ 102 → k ≠ 114 → τ1.1 k = τ.1 k := fun k g1 g2 => by rw [d3 k g2, wi_row g1]
      have t12 : ∀ i, i ≠ 0 → τ1.1 102 i = τ.1 102 i := fun i g1 => by rw [d3 102 (by decide), wi_ne g1]
      have QK : QQ 50 89 σ2 τ1 V E d p L W dl pl et true t s rd h n g := QQ_move hQ
        (fun i hi => by rw [s50 50 (by omega) (by omega), a2 i hi, so m (by omega)]) (fun j g1 g2 i hi => by rw [s50 (50 + j) (by omega) (by omega), a3 j g1 g2 i hi, so (m + j) (by omega)]) (fun j g1 g2 i hi => by rw [s50 (50 + j) (by omega) (by omega), a4 j g1 g2 i hi, so (m + j) (by omega)]) (fun j g1 g2 i hi => by rw [s50 (50 + j) (by omega) (by omega), a5 j g1 g2 i hi, so (m + j) (by omega)])
        (fun i hi => by rw [b2 i hi, sr 63 (by omega) (by omega)]) (fun j g1 g2 i hi => by rw [b3 j g1 g2 i hi, sr (63 + j) (by omega) (by omega)]) (by rw [b4, sr (63 + 9) (by omega) (by omega)]) (fun j g1 g2 i hi => by rw [b5 j g1 g2 i hi, sr (63 + j) (by omega) (by omega)])
        (fun i g1 g2 => t12 i (by omega)) (t1r 103 (by decide) (by decide)) (t1r 104 (by decide) (by decide)) (t1r 105 (by decide) (by decide)) (fun i hi => by rw [t1r 112 (by decide) (by decide)])
      obtain ⟨x, σ3, τ3, e1, e2, ⟨f1, f2⟩, ⟨f3, f4, f5⟩⟩ := will_l y 400 0 FU FU 0 d σ2 τ1 t s rd h n g rfl (by omega) (by show _ < 6000; omega) (by show _ < 6000; omega) QK (by omega)
      obtain ⟨τ4, h1, h2, h3, h4⟩ := rCopy (a := 114) (b := 112) (τ := τ3) (by decide)
      obtain ⟨τ', hτ'⟩ : ∃ x, x = wi (wi τ4 102 1 (I 0)) 102 2 (I (-1)) := ⟨_, rfl⟩
      have fc : ∀ k, k ≠ 0 → k < 4 ∨ 9 < k → k < 50 ∨ 62 < k → k < 89 ∨ 101 < k → σ3.1 k = σ.1 k := fun k g0 g1 g2 g3 => by rw [f1 k g1 g2 g3, b6 k (by omega), a6 k (by omega), so k g0]
      have f0 : ∀ i, σ3.1 0 i = (wi σ 0 12 (I 0)).1 0 i := fun i => by rw [f1 0 (by decide) (by decide) (by decide), b6 0 (by omega), a6 0 (by omega)]
      have fk : ∀ k, k ≠ 102 → k ≠ 112 → k ≠ 114 → k ≠ 116 → k ≠ 117 → τ'.1 k = τ.1 k := fun k g1 g2 g3 g4 g5 => by rw [hτ', wi_row g1, wi_row g1, h3 k g2, f3 k g1 g2 g4 g5, t1r k g1 g3]
      have fi : ∀ i, 3 ≤ i → i ≠ 37 → i ≠ 38 → τ'.1 102 i = τ.1 102 i := fun i g1 g2 g3 => by rw [hτ', wi_ne (by omega), wi_ne (by omega), h3 102 (by decide), f4 i g2 g3, t12 i (by omega)]
      have fx : ∀ i, i < 179 → τ'.1 112 i = τ.1 112 i := fun i hi => by rw [hτ', wi_row (by decide), wi_row (by decide), h2 i hi, f3 114 (by decide) (by decide) (by decide) (by decide), d2 i hi, wi_row (by decide)]
      have QQ' : QQ m 63 σ3 τ' V E d p L W dl pl et true t s rd h n g := QQ_move hQ
        (fun i hi => by rw [fc m (by omega) (by omega) (by omega) (by omega)]) (fun j g1 g2 i hi => by rw [fc (m + j) (by omega) (by omega) (by omega) (by omega)]) (fun j g1 g2 i hi => by rw [fc (m + j) (by omega) (by omega) (by omega) (by omega)]) (fun j g1 g2 i hi => by rw [fc (m + j) (by omega) (by omega) (by omega) (by omega)])
        (fun i hi => by rw [fc 63 (by omega) (by omega) (by omega) (by omega)]) (fun j g1 g2 i hi => by rw [fc (63 + j) (by omega) (by omega) (by omega) (by omega)]) (by rw [fc (63 + 9) (by omega) (by omega) (by omega) (by omega)]) (fun j g1 g2 i hi => by rw [fc (63 + j) (by omega) (by omega) (by omega) (by omega)])
        (fun i g1 g2 => fi i (by omega) (by omega) (by omega)) (fk 103 (by decide) (by decide) (by decide) (by decide) (by decide)) (fk 104 (by decide) (by decide) (by decide) (by decide) (by decide)) (fk 105 (by decide) (by decide) (by decide) (by decide) (by decide)) fx
      refine ⟨x, σ3, τ', ?_, ?_, ⟨m, V, E, pres, kp, d, p, L, W, dl, pl, et, true, t, s, rd, h, n, g, GA_act2 hG hp (by omega) QQ' (by omega) (fun k hk => fc k (by omega) (by omega) (by omega) (by omega)) (fun i hi => by rw [f0 i, wi_ne hi]) (by rw [f2, b7, a7, wi_2]) (fun k g1 g2 g3 g4 => fk k (by omega) g3 g4 (by omega) (by omega)) (fun i g1 g2 => fi i g1 (by omega) (by omega)) (by rw [f0 12, wi_eq]) (by rw [hτ', wi_ne (by decide), wi_eq]) (by rw [hτ', wi_eq])⟩, ⟨fun k hk => by rw [fc k (by omega) (by omega) (by omega) (by omega), wi_row (by omega)], by rw [f2, b7, a7]⟩, ⟨fun k hk => fk k (by omega) (by omega) (by omega) (by omega) (by omega), by rw [hτ', wi_2, wi_2, h4, f5, d4, wi_2]⟩⟩
      · show gd (bM ((wi σ 0 12 (I 0)).2.2 0 4)) (bd (f_X3_copyFrom 50 ((wi σ 0 12 (I 0)).2.2 0 4) (wi σ 0 12 (I 0))) fun _ σ6 => bd (f_X4_copyFrom 89 63 σ6) fun _ σ7 => (f_X6_will_49 FU (I w) (I 0) σ7)) = _
        rw [hm, bm, gd_t, a1, bd_s, b1, bd_s, e1]
      · rw [will_r1 c2 er d1, e2, h1, bd_s, goodR, bd_s, hτ'])
  refine ⟨x, σ', τ', ?_, k2, k3⟩
  unfold f_X6_will
  rw [show (0 : Int32) = I 0 from rfl, show (6 : Int32) = I 6 from rfl, c1, bd_s, hQ.2.2.1.1.1]
  exact k1

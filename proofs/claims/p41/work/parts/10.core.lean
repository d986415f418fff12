/-- the tables' words that a callee may be given -/
def gtb : List Cond := lw_tbl.filter goodWord
/-! THE STATE: 121 cells by number (0 .. 101 the class, 102 .. 119 the reference, 120 the law's row), ints, longs and the two market numbers of each -/
abbrev Wd : Type := (Nat → Nat → Int32) × (Nat → Nat → Int64) × (Nat → Nat → Nat)
def wi (σ : Wd) (k j : Nat) (x : Int32) : Wd := (fun a => if a = k then upd (σ.1 k) j x else σ.1 a, σ.2)
def wl (σ : Wd) (k j : Nat) (x : Int64) : Wd := (σ.1, fun a => if a = k then vp_updL (σ.2.1 k) j x else σ.2.1 a, σ.2.2)
def wr (σ : Wd) (k j : Nat) (x : Nat) : Wd := (σ.1, σ.2.1, fun a => if a = k then (fun i => if i = j then x else σ.2.2 k i) else σ.2.2 a)
def wc (σ : Wd) (k : Nat) (f : Nat → Int32) : Wd := (fun a => if a = k then f else σ.1 a, σ.2)
abbrev ix (i : Int32) : Nat := i.toNatClampNeg
/-- the kit's numbers, the addresses, the first new address, the classes of int, byte, long, boolean arrays, the texts' addresses -/
abbrev Gh : Type := va_G × (Nat → Nat) × Nat × (ClassId × ClassId × ClassId × ClassId) × ((Nat → Nat) × (Nat → Nat))
abbrev Gh.D (G : Gh) : va_G := G.1
abbrev Gh.A (G : Gh) : Nat → Nat := G.2.1
abbrev Gh.z (G : Gh) : Nat := G.2.2.1
abbrev Gh.T (G : Gh) : ClassId × ClassId × ClassId × ClassId := G.2.2.2.1
abbrev Gh.aK (G : Gh) : Nat → Nat := G.2.2.2.2.1
abbrev Gh.aV (G : Gh) : Nat → Nat := G.2.2.2.2.2
/-- which cell is what: (0, n) ints, (1, n) bytes, (2, n) longs, (3, n) booleans, (9, c) an object of class c -/
def shM : List (Nat × Nat) := [(9, 3), (0, 5), (0, 5), (0, 5), (0, 5), (0, 5), (0, 5), (0, 5), (0, 30), (0, 30), (0, 10), (0, 10), (0, 10)]
def shR : List (Nat × Nat) := [(9, 4), (0, 5), (0, 5), (0, 5), (0, 5), (0, 5), (0, 5), (0, 5), (0, 5), (9, 2), (0, 30), (0, 30), (0, 30)]
def shl : List (Nat × Nat) := [(9, 6), (9, 5), (1, 900), (0, 5), (9, 1), (0, 5), (0, 5), (0, 605), (0, 726), (0, 121), (9, 0)] ++ (shM ++ (shM ++ (shM ++ (shM ++ (shR ++ (shR ++ (shR ++ [(9, 7), (0, 25), (0, 30), (0, 40), (0, 25), (0, 30), (0, 40), (0, 30), (0, 5), (2, 5), (0, 179), (0, 179), (0, 179), (1, 900), (0, 726), (0, 5), (0, 5), (3, 121), (2, 1)])))))))
def oX0 (ri : Nat → Int32) : va_E := .inr (0, [.int (ri 0), .int (ri 1)])
def oX1 (A : Nat → Nat) (k : Nat) (ri : Nat → Int32) : va_E := .inr (1, [.int (ri 0), .int (ri 1), .ref (A (k + 1)), .ref (A (k + 2)), .ref (A (k + 3)), .ref (A (k + 4)), .ref (A (k + 5))])
def oX2 (A : Nat → Nat) (k : Nat) (ri : Nat → Int32) : va_E := .inr (2, [.int (ri 0), .ref (A (k + 1)), .ref (A (k + 2)), .ref (A (k + 3))])
def oX3 (A : Nat → Nat) (k : Nat) (ri : Nat → Int32) : va_E := .inr (3, [.int (ri 0), .int (ri 1), .int (ri 2), .int (ri 3), .int (ri 4), .ref (A (k + 1)), .ref (A (k + 2)), .ref (A (k + 3)), .ref (A (k + 4)), .ref (A (k + 5)), .ref (A (k + 6)), .ref (A (k + 7)), .ref (A (k + 8)), .ref (A (k + 9)), .ref (A (k + 10)), .ref (A (k + 11)), .ref (A (k + 12))])
def oX4 (A : Nat → Nat) (k : Nat) (ri : Nat → Int32) : va_E := .inr (4, [.int (ri 0), .int (ri 1), .int (ri 2), .int (ri 3), .int (ri 4), .int (ri 5), .int (ri 6), .int (ri 7), .ref (A (k + 1)), .ref (A (k + 2)), .ref (A (k + 3)), .ref (A (k + 4)), .ref (A (k + 5)), .ref (A (k + 6)), .ref (A (k + 7)), .ref (A (k + 8)), .ref (A (k + 9))])
def oX5 (A : Nat → Nat) (k : Nat) (ri : Nat → Int32) : va_E := .inr (5, [.int (ri 0), .int (ri 1), .int (ri 2), .ref (A (k + 1)), .ref (A (k + 2)), .int (ri 5), .int (ri 6), .int (ri 7), .int (ri 8), .int (ri 9), .int (ri 10)])
def oX6 (A : Nat → Nat) (ri : Nat → Int32) (rr : Nat → Nat) : va_E := .inr (6, [.ref (A 1), .ref (A 4), .ref (A 10), .ref (A (rr 3)), .ref (A (rr 4)), .ref (A 37), .ref (A 50), .ref (A 63), .ref (A 76), .ref (A 89), .int (ri 10), .int (ri 11), .int (ri 12), .int (ri 13)])
def oX7 (A : Nat → Nat) (ri : Nat → Int32) (rl : Nat → Int64) : va_E := .inr (7, [.int (ri 0), .int (ri 1), .int (ri 2), .ref (A 103), .ref (A 104), .ref (A 105), .ref (A 106), .ref (A 107), .ref (A 108), .ref (A 109), .ref (A 110), .ref (A 111), .int (ri 12), .int (ri 13), .int (ri 14), .int (ri 15), .int (ri 16), .int (ri 17), .int (ri 18), .int (ri 19), .int (ri 20), .int (ri 21), .ref (A 112), .ref (A 113), .ref (A 114), .int (ri 25), .ref (A 115), .int (ri 27), .int (ri 28), .int (ri 29), .int (ri 30), .int (ri 31), .int (ri 32), .int (ri 33), .long (rl 34), .ref (A 116), .ref (A 117), .int (ri 37), .int (ri 38), .int (ri 39), .ref (A 118), .ref (A 119)])
def entO (c : Nat) (G : Gh) (k : Nat) (ri : Nat → Int32) (rl : Nat → Int64) (rr : Nat → Nat) : va_E := match c with
  | 0 => oX0 ri
  | 1 => oX1 G.A k ri
  | 2 => oX2 G.A k ri
  | 3 => oX3 G.A k ri
  | 4 => oX4 G.A k ri
  | 5 => oX5 G.A k ri
  | 6 => oX6 G.A ri rr
  | _ => oX7 G.A ri rl
def entT (t n : Nat) (G : Gh) (k : Nat) (ri : Nat → Int32) (rl : Nat → Int64) (rr : Nat → Nat) : va_E := match t with
  | 0 => .inl (G.T.1, n, .inl ri)
  | 1 => .inl (G.T.2.1, n, .inl ri)
  | 2 => .inl (G.T.2.2.1, n, .inr (.inl rl))
  | 3 => .inl (G.T.2.2.2, n, .inl ri)
  | _ => entO n G k ri rl rr
def entK (G : Gh) (k : Nat) (ri : Nat → Int32) (rl : Nat → Int64) (rr : Nat → Nat) : va_E := entT (shl.getD k (9, 99)).1 (shl.getD k (9, 99)).2 G k ri rl rr
abbrev entW (G : Gh) (σ : Wd) (k : Nat) : va_E := entK G k (σ.1 k) (σ.2.1 k) (σ.2.2 k)
def wsOf (G : Gh) (σ : Wd) : va_W := (List.range 121).map (fun k => (G.A k, entW G σ k))
def tysOf (G : Gh) : List (ClassId × FieldType) := [(G.T.1, .int), (G.T.2.1, .byte), (G.T.2.2.1, .long), (G.T.2.2.2, .boolean)]
theorem wsOf_at {G : Gh} {σ : Wd} {k : Nat} (hk : k < 121) : (wsOf G σ)[k]? = some (G.A k, entW G σ k) := by
  unfold wsOf
  rw [List.getElem?_map, List.getElem?_range hk]
  rfl
theorem wsOf_of {G : Gh} {σ : Wd} {k : Nat} {q : Nat × va_E} (h : (wsOf G σ)[k]? = some q) : k < 121 ∧ q = (G.A k, entW G σ k) := by
  have hl : k < (wsOf G σ).length := (List.getElem?_eq_some_iff.mp h).1
  have hk : k < 121 := by
    unfold wsOf at hl
    rw [List.length_map, List.length_range] at hl
    exact hl
  rw [wsOf_at hk] at h
  exact ⟨hk, (Option.some.inj h).symm⟩
/-- one cell of the world set anew -/
theorem wsOf_set {G : Gh} {σ σ' : Wd} {k : Nat} {q : Nat × va_E} {H : Heap} (hk : k < 121) (hq : q = (G.A k, entW G σ' k)) (ho : ∀ a, a ≠ k → entW G σ' a = entW G σ a) (h : va_P G.D vwCl ((wsOf G σ).set k q) H) : va_P G.D vwCl (wsOf G σ') H := by
  intro a r hr
  obtain ⟨ha, rfl⟩ := wsOf_of hr
  refine h a _ ?_
  by_cases e : a = k
  · subst e
    rw [List.getElem?_set_self (by unfold wsOf; rw [List.length_map, List.length_range]; exact hk), hq]
  · rw [List.getElem?_set_ne (Ne.symm e), wsOf_at ha, ho a e]
theorem wi_o {G : Gh} {σ : Wd} {k j a : Nat} {x : Int32} (h : a ≠ k) : entW G (wi σ k j x) a = entW G σ a := by
  show entK G a (if a = k then _ else _) _ _ = _
  rw [if_neg h]; rfl
theorem wi_s {G : Gh} {σ : Wd} {k j : Nat} {x : Int32} : entW G (wi σ k j x) k = entK G k (upd (σ.1 k) j x) (σ.2.1 k) (σ.2.2 k) := by
  show entK G k (if k = k then _ else _) _ _ = _
  rw [if_pos rfl]; rfl
theorem wc_o {G : Gh} {σ : Wd} {k a : Nat} {f : Nat → Int32} (h : a ≠ k) : entW G (wc σ k f) a = entW G σ a := by
  show entK G a (if a = k then _ else _) _ _ = _
  rw [if_neg h]; rfl
theorem wc_s {G : Gh} {σ : Wd} {k : Nat} {f : Nat → Int32} : entW G (wc σ k f) k = entK G k f (σ.2.1 k) (σ.2.2 k) := by
  show entK G k (if k = k then _ else _) _ _ = _
  rw [if_pos rfl]; rfl
theorem wl_o {G : Gh} {σ : Wd} {k j a : Nat} {x : Int64} (h : a ≠ k) : entW G (wl σ k j x) a = entW G σ a := by
  show entK G a _ (if a = k then _ else _) _ = _
  rw [if_neg h]; rfl
theorem wl_s {G : Gh} {σ : Wd} {k j : Nat} {x : Int64} : entW G (wl σ k j x) k = entK G k (σ.1 k) (vp_updL (σ.2.1 k) j x) (σ.2.2 k) := by
  show entK G k _ (if k = k then _ else _) _ = _
  rw [if_pos rfl]; rfl
theorem wr_o {G : Gh} {σ : Wd} {k j a : Nat} {x : Nat} (h : a ≠ k) : entW G (wr σ k j x) a = entW G σ a := by
  show entK G a _ _ (if a = k then _ else _) = _
  rw [if_neg h]; rfl
theorem wr_s {G : Gh} {σ : Wd} {k j : Nat} {x : Nat} : entW G (wr σ k j x) k = entK G k (σ.1 k) (σ.2.1 k) (fun i => if i = j then x else σ.2.2 k i) := by
  show entK G k _ _ (if k = k then _ else _) = _
  rw [if_pos rfl]; rfl
/-- which numbers are markets, runs, ledgers -/
def isM (k : Nat) : Prop := k = 11 ∨ k = 24 ∨ k = 37 ∨ k = 50
def isR (k : Nat) : Prop := k = 63 ∨ k = 76 ∨ k = 89
def isL (k : Nat) : Prop := k = 72 ∨ k = 85 ∨ k = 98
theorem isR_L {k : Nat} (h : isR k) : isL (k + 9) := by
  rcases h with rfl | rfl | rfl
  · exact Or.inl rfl
  · exact Or.inr (Or.inl rfl)
  · exact Or.inr (Or.inr rfl)
def bM (k : Nat) : Bool := Nat.beq k 11 || (Nat.beq k 24 || (Nat.beq k 37 || Nat.beq k 50))
theorem bM_is {k : Nat} (h : bM k = true) : isM k := by
  unfold bM at h
  simp only [Bool.or_eq_true] at h
  rcases h with h | h | h | h
  · exact Or.inl (Nat.eq_of_beq_eq_true h)
  · exact Or.inr (Or.inl (Nat.eq_of_beq_eq_true h))
  · exact Or.inr (Or.inr (Or.inl (Nat.eq_of_beq_eq_true h)))
  · exact Or.inr (Or.inr (Or.inr (Nat.eq_of_beq_eq_true h)))
theorem isM_b {k : Nat} (h : isM k) : bM k = true := by rcases h with rfl | rfl | rfl | rfl <;> rfl
def AdOk (G : Gh) : Prop := (∀ i j : Nat, i < 121 → j < 121 → G.A i = G.A j → i = j) ∧ ∀ k : Nat, k < 121 → G.z ≤ G.A k
abbrev zA (G : Gh) : Nat → Prop := fun q => G.z ≤ q
theorem AdOk.D {G : Gh} {σ : Wd} (h : AdOk G) : va_D (zA G) (wsOf G σ) := by
  refine ⟨fun i j p q hp hq e => ?_, fun k q hq => ?_⟩
  · obtain ⟨h1, rfl⟩ := wsOf_of hp
    obtain ⟨h2, rfl⟩ := wsOf_of hq
    exact h.1 i j h1 h2 e
  · obtain ⟨h1, rfl⟩ := wsOf_of hq
    exact h.2 k h1
/-- the texts: numbers, their lengths and bytes -/
def txL : List Nat := [5, 5, 5, 5, 5, 4, 5, 5, 4, 3, 3, 5, 5]
def txS : List String := ["order", "venue", "level", "event", "limit", "life", "plain", "tiers", "flat", "lot", "fee", "least", "delay"]
def txB : List (List Int32) := [[111, 114, 100, 101, 114], [118, 101, 110, 117, 101], [108, 101, 118, 101, 108], [101, 118, 101, 110, 116], [108, 105, 109, 105, 116], [108, 105, 102, 101], [112, 108, 97, 105, 110], [116, 105, 101, 114, 115], [102, 108, 97, 116], [108, 111, 116], [102, 101, 101], [108, 101, 97, 115, 116], [100, 101, 108, 97, 121]]
def txR : List (String × Nat × Nat) := [("OrderSplit$Tape", 66, 0), ("OrderSplit$Tape", 108, 4), ("OrderSplit$Tape", 112, 5), ("OrderSplit$Tape", 75, 1), ("OrderSplit$Tape", 85, 2), ("OrderSplit$Tape", 90, 3), ("OrderSplit$Tape", 175, 6), ("OrderSplit$Tape", 177, 7), ("OrderSplit$Tape", 179, 8), ("OrderSplit$Tape", 130, 9), ("OrderSplit$Tape", 181, 10), ("OrderSplit$Tape", 141, 11), ("OrderSplit$Tape", 146, 12), ("OrderSplitModel", 144, 0), ("OrderSplitModel", 185, 4), ("OrderSplitModel", 191, 5), ("OrderSplitModel", 146, 1), ("OrderSplitModel", 147, 2), ("OrderSplitModel", 149, 3), ("OrderSplitModel", 199, 6), ("OrderSplitModel", 201, 7), ("OrderSplitModel", 203, 8), ("OrderSplitModel", 214, 9), ("OrderSplitModel", 205, 10), ("OrderSplitModel", 219, 11), ("OrderSplitModel", 221, 12)]
def nsL : List (String × Nat × MethodName × String) := [(RX6, 11, yX5_init, "OrderSplit"), (RX6, 20, yX1_init, "OrderSplit"), (RX6, 27, yX0_init, "OrderSplit"), (RX6, 34, yX3_init, "OrderSplit"), (RX6, 50, yX4_init, "OrderSplit"), (RX4, 64, yX2_init, "OrderSplit"), (RX5, 160, yX6_slot, "OrderSplit"), (RX0, 41, yX6_slot, "OrderSplit"), (RX4, 174, yX6_slot, "OrderSplit")]
def vS (G : Gh) (U : State) (H : Heap) : Prop := ∀ i : Nat, i < 13 → va_O "java/lang/String" (G.aK i) (zA G) U H ∧ va_OF "java/lang/String" "coder" "B" (.int 0) (G.aK i) (zA G) U H ∧ va_OF "java/lang/String" "value" "[B" (.ref (G.aV i)) (G.aK i) (zA G) U H ∧ va_T .byte (G.aV i) (txL.getD i 0) (fun j => .int ((txB.getD i []).getD j 0)) (zA G) U H
theorem vS.moved {G : Gh} {u U : State} {H : Heap} (ha : u.vm.Alike U.vm) (h : vS G u H) : vS G U H := fun i hi => ⟨va_O.moved ha (h i hi).1, va_OF.moved ha (h i hi).2.1, va_OF.moved ha (h i hi).2.2.1, va_T.moved ha (h i hi).2.2.2⟩
theorem vS.kept {G : Gh} {U : State} {H H1 : Heap} (h : vS G U H) (hq : ∀ a : Nat, a < H.size → ¬ zA G a → H1[a]? = H[a]?) : vS G U H1 := fun i hi => ⟨(h i hi).1.kept hq, (h i hi).2.1.kept hq, (h i hi).2.2.1.kept hq, (h i hi).2.2.2.kept hq⟩
theorem vS_recv {G : Gh} {s : State} {H : Heap} {locs : List Loc} {i : Nat} (h : vS G s s.heap) (hi : i < 13) (hS : va_S (zA G) s.heap H locs) : ∃ cell : Cell, H[G.aK i]? = some cell ∧ cell.vm.isStatics = false ∧ s.vm.findClass "java/lang/String" = some cell.cls := by
  obtain ⟨cell, h1, h2, h3, -⟩ := (h i hi).1.kept hS.2.1
  exact ⟨cell, h1, h2, h3⟩
def TxOk (G : Gh) (U : State) (H : Heap) : Prop := vS G U H ∧ (∀ q ∈ txR, vk_R q.1 q.2.1 (txS.getD q.2.2 "") (G.aK q.2.2) U) ∧ va_Z "java/lang/String" "COMPACT_STRINGS" "Z" (.int 1) (zA G) U H ∧ (∀ q ∈ nsL, va_Nw (.methodLinkNest q.1 q.2.1 q.2.2.1 q.2.2.2) U) ∧ va_Zq "jdk/internal/util/Preconditions" "SIOOBE_FORMATTER" "Ljava/util/function/BiFunction;" (zA G) U H
theorem TxOk.moved {G : Gh} {u U : State} {H : Heap} (hW : u.WarmedH U.vm) (h : TxOk G u H) : TxOk G U H := ⟨h.1.moved hW.alike, fun q hq => (h.2.1 q hq).warm hW, va_Z.moved hW.alike h.2.2.1, fun q hq => (h.2.2.2.1 q hq).warmM hW, va_Zq.moved hW.alike h.2.2.2.2⟩
theorem TxOk.kept {G : Gh} {U : State} {H H1 : Heap} (h : TxOk G U H) (hq : ∀ a : Nat, a < H.size → ¬ zA G a → H1[a]? = H[a]?) : TxOk G U H1 := ⟨h.1.kept hq, h.2.1, h.2.2.1.kept hq, h.2.2.2.1, h.2.2.2.2.kept hq⟩
theorem TxOk.same {G : Gh} {u U : State} {H : Heap} (hv : U.vm = u.vm) (h : TxOk G u H) : TxOk G U H := by
  have ha : u.vm.Alike U.vm := by rw [hv]; exact Vm.Alike.refl u.vm
  exact ⟨h.1.moved ha, fun q hq => (h.2.1 q hq).same hv, va_Z.moved ha h.2.2.1, fun q hq => va_Nw.same rfl hv.symm (h.2.2.2.1 q hq), va_Zq.moved ha h.2.2.2.2⟩
/-- the world in a state -/
def Wl (G : Gh) (σ : Wd) (U : State) : Prop := G.z ≤ U.heap.size ∧ va_P G.D vwCl (wsOf G σ) U.heap ∧ va_K G.D vwCl (tysOf G) U ∧ AdOk G ∧ TxOk G U U.heap
abbrev Kt : Type := (Program × Launch × Env × Room × State) × (MethodId × Array Value × List Frame × Method × Code) × (Gh × ((Int32 × Wd) → State → Prop))
abbrev Kt.p (K : Kt) : Program := K.1.1
abbrev Kt.l (K : Kt) : Launch := K.1.2.1
abbrev Kt.e (K : Kt) : Env := K.1.2.2.1
abbrev Kt.R (K : Kt) : Room := K.1.2.2.2.1
abbrev Kt.s (K : Kt) : State := K.1.2.2.2.2
abbrev Kt.m (K : Kt) : MethodId := K.2.1.1
abbrev Kt.args (K : Kt) : Array Value := K.2.1.2.1
abbrev Kt.below (K : Kt) : List Frame := K.2.1.2.2.1
abbrev Kt.meth (K : Kt) : Method := K.2.1.2.2.2.1
abbrev Kt.c (K : Kt) : Code := K.2.1.2.2.2.2
abbrev Kt.G (K : Kt) : Gh := K.2.2.1
abbrev Kt.Z (K : Kt) : (Int32 × Wd) → State → Prop := K.2.2.2
/-- what a method's walk stands on: the machine, its code, the tables' words, the classes, the texts -/
def Ok (K : Kt) (cc : ByteArray) (own : String) (nL : Nat) (rm : Room) : Prop :=
  K.p.tables.exec = Jvm.exec ∧ K.c.code = cc ∧ K.c.maxLocals = nL ∧ K.s.vm.findClass own = some K.m.cls ∧ (∀ w ∈ gtb, w.before K.args K.s = true) ∧ va_K K.G.D vwCl (tysOf K.G) K.s ∧ AdOk K.G ∧ K.meth.locks = false ∧ TxOk K.G K.s K.s.heap ∧ K.G.z ≤ K.s.heap.size ∧ K.R = rm
section OKS
variable {K : Kt} {cc : ByteArray} {ow : String} {nL : Nat} {ro : Room}
theorem Ok.x (h : Ok K cc ow nL ro) : K.p.tables.exec = Jvm.exec := h.1
theorem Ok.b (h : Ok K cc ow nL ro) : K.c.code = cc := h.2.1
theorem Ok.ml (h : Ok K cc ow nL ro) : K.c.maxLocals = nL := h.2.2.1
theorem Ok.own (h : Ok K cc ow nL ro) : K.s.vm.findClass ow = some K.m.cls := h.2.2.2.1
theorem Ok.ts (h : Ok K cc ow nL ro) : ∀ w ∈ gtb, w.before K.args K.s = true := h.2.2.2.2.1
theorem Ok.k (h : Ok K cc ow nL ro) : va_K K.G.D vwCl (tysOf K.G) K.s := h.2.2.2.2.2.1
theorem Ok.ad (h : Ok K cc ow nL ro) : AdOk K.G := h.2.2.2.2.2.2.1
theorem Ok.lk (h : Ok K cc ow nL ro) : K.meth.locks = false := h.2.2.2.2.2.2.2.1
theorem Ok.tx (h : Ok K cc ow nL ro) : TxOk K.G K.s K.s.heap := h.2.2.2.2.2.2.2.2.1
theorem Ok.z (h : Ok K cc ow nL ro) : K.G.z ≤ K.s.heap.size := h.2.2.2.2.2.2.2.2.2.1
theorem Ok.rm (h : Ok K cc ow nL ro) : K.R = ro := h.2.2.2.2.2.2.2.2.2.2
end OKS
/-- locals, by their numbers -/
def lget : List (Nat × Value) → Nat → Option Value
  | [], _ => none
  | (j, v) :: r, i => match Nat.beq j i with
    | true => some v
    | false => lget r i
def ldel : List (Nat × Value) → Nat → List (Nat × Value)
  | [], _ => []
  | (j, w) :: r, i => match Nat.beq j i with
    | true => ldel r i
    | false => (j, w) :: ldel r i
def lset : List (Nat × Value) → Nat → Value → List (Nat × Value)
  | [], i, v => [(i, v)]
  | (j, w) :: r, i, v => match Nat.beq j i with
    | true => (i, v) :: ldel r i
    | false => (j, w) :: lset r i v
/-- no long just ahead of place i -/
def lok : List (Nat × Value) → Nat → Bool
  | [], _ => true
  | (j, w) :: r, i => match Nat.beq (j + 1) i with
    | true => (match w with
      | .long _ => false
      | .double _ => false
      | _ => lok r i)
    | false => lok r i
def lsub : List (Nat × Value) → List (Nat × Value) → Prop
  | [], _ => True
  | (i, v) :: r, lv => lget lv i = some v ∧ lsub r lv
theorem lget_mem : ∀ {lv : List (Nat × Value)} {i : Nat} {v : Value}, lget lv i = some v → (i, v) ∈ lv
  | [], _, _, h => by cases h
  | (j, w) :: r, i, v, h => by
    unfold lget at h
    split at h
    · rename_i e
      cases h
      rw [Nat.eq_of_beq_eq_true e]
      exact List.mem_cons_self
    · exact List.mem_cons_of_mem _ (lget_mem h)
theorem lsub_mem : ∀ {r lv : List (Nat × Value)}, lsub r lv → ∀ q ∈ r, q ∈ lv
  | [], _, _, q, hq => by cases hq
  | (i, v) :: r, lv, h, q, hq => by
    rcases List.mem_cons.mp hq with e | e
    · rw [e]; exact lget_mem h.1
    · exact lsub_mem h.2 q e
theorem ldel_mem : ∀ {lv : List (Nat × Value)} {i : Nat} {q : Nat × Value}, q ∈ ldel lv i → q ∈ lv ∧ q.1 ≠ i
  | [], i, q, h => by cases h
  | (j, w) :: r, i, q, h => by
    unfold ldel at h
    split at h
    · obtain ⟨h1, h2⟩ := ldel_mem h
      exact ⟨List.mem_cons_of_mem _ h1, h2⟩
    · rename_i e
      rcases List.mem_cons.mp h with h | h
      · refine ⟨by rw [h]; exact List.mem_cons_self, by rw [h]; exact Nat.ne_of_beq_eq_false e⟩
      · obtain ⟨h1, h2⟩ := ldel_mem h
        exact ⟨List.mem_cons_of_mem _ h1, h2⟩
theorem lset_mem : ∀ {lv : List (Nat × Value)} {i : Nat} {v : Value} {q : Nat × Value}, q ∈ lset lv i v → q = (i, v) ∨ (q ∈ lv ∧ q.1 ≠ i)
  | [], i, v, q, h => Or.inl (List.mem_singleton.mp h)
  | (j, w) :: r, i, v, q, h => by
    unfold lset at h
    split at h
    · rcases List.mem_cons.mp h with h | h
      · exact Or.inl h
      · obtain ⟨h1, h2⟩ := ldel_mem h
        exact Or.inr ⟨List.mem_cons_of_mem _ h1, h2⟩
    · rename_i e
      rcases List.mem_cons.mp h with h | h
      · refine Or.inr ⟨by rw [h]; exact List.mem_cons_self, by rw [h]; exact Nat.ne_of_beq_eq_false e⟩
      · rcases lset_mem h with h | ⟨h1, h2⟩
        · exact Or.inl h
        · exact Or.inr ⟨List.mem_cons_of_mem _ h1, h2⟩
theorem lok_mem : ∀ {lv : List (Nat × Value)} {i : Nat}, lok lv i = true → ∀ q ∈ lv, q.1 + 1 = i → ¬ q.2.category = 2
  | [], i, _, q, hq, _ => by cases hq
  | (j, w) :: r, i, h, q, hq, e => by
    unfold lok at h
    rcases List.mem_cons.mp hq with hq | hq
    · subst hq
      have e1 : Nat.beq (j + 1) i = true := by
        rw [show i = j + 1 from e.symm]
        exact Nat.beq_refl (j + 1)
      rw [e1] at h
      cases w <;> first | cases h | (intro hc; cases hc)
    · refine lok_mem ?_ q hq e
      split at h
      · split at h <;> first | cases h | exact h
      · exact h
/-- a walk: if e has an end, the machine comes from here to that end -/
def Cm (K : Kt) (nL : Nat) (cs : Nat × Nat) (e : Option (Int32 × Wd)) (σ : Wd) (pc : Nat) (lv : List (Nat × Value)) (st : List Value) : Prop :=
  ∀ out, e = some out → ∀ (H : Heap) (locs : List Loc) (ls : Array Slot), va_P K.G.D vwCl (wsOf K.G σ) H → va_S (zA K.G) K.s.heap H locs → lv_has ls nL lv →
    W K.p K.l K.e K.R K.s K.m K.args K.below K.meth K.c H locs cs.1 cs.2 (K.Z out) (F0 K.m pc ls st)
def gd (b : Bool) (e : Option (Int32 × Wd)) : Option (Int32 × Wd) := match b with
  | true => e
  | false => none
def bd (a : Option (Int32 × Wd)) (f : Int32 → Wd → Option (Int32 × Wd)) : Option (Int32 × Wd) := match a with
  | none => none
  | some (r, σ) => f r σ
def inb (i : Int32) (n : Nat) : Bool := decide (0 ≤ i) && Nat.blt (ix i) n
def isb (x : Int32) : Bool := decide (x = 0) || decide (x = 1)
def nmW (σ : Wd) (f : Wd → Option (Int32 × Wd)) : Option (Int32 × Wd) := f σ
def nmI (x : Int32) (f : Int32 → Option (Int32 × Wd)) : Option (Int32 × Wd) := f x
theorem gd_some {b : Bool} {e : Option (Int32 × Wd)} {out : Int32 × Wd} (h : gd b e = some out) : b = true ∧ e = some out := by
  cases b
  · cases h
  · exact ⟨rfl, h⟩
theorem inb_in {i : Int32} {n : Nat} (h : inb i n = true) : vp_in i n := by
  unfold inb at h
  rw [Bool.and_eq_true] at h
  obtain ⟨h1, h2⟩ := h
  have h1 := of_decide_eq_true h1
  have h2 : ix i < n := Nat.le_of_ble_eq_true h2
  intro h
  rcases h with h | h
  · exact absurd h1 (Int32.not_le.mpr h)
  · exact absurd h2 (Nat.not_lt.mpr h)

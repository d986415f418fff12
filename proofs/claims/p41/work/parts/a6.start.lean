def fl2 : Jvm.Cond → List Jvm.Cond → List Jvm.Cond
  | .and a b, acc => fl2 a (fl2 b acc)
  | c, acc => c :: acc
theorem fl2_mem {w : Jvm.Cond} (T : Jvm.Cond) : ∀ acc, w ∈ fl2 T acc → w ∈ flatC T ∨ w ∈ acc := by
  induction T with
  | and a b iha ihb =>
    intro acc h
    rw [fl2] at h
    rw [flatC, List.mem_append]
    rcases iha _ h with h | h
    · exact .inl (.inl h)
    · rcases ihb _ h with h | h
      · exact .inl (.inr h)
      · exact .inr h
  | _ => intro acc h; exact (List.mem_cons.mp h).elim (fun h => .inl (List.mem_singleton.mpr h)) .inr
/-- n of the parts of what holds at the start, from the a-th on -/
theorem fl2_at {args : Array Value} {s : State} {T : Jvm.Cond} (h : T.before args s = true) (a n : Nat) : ∀ c ∈ ((fl2 T []).drop a).take n, c.before args s = true := fun c hc => flat_of_before T h c ((fl2_mem T [] (List.mem_of_mem_drop (List.mem_of_mem_take hc))).resolve_right (fun h => nomatch h))
set_option maxRecDepth 100000 in
set_option maxHeartbeats 8000000 in
/-- the law, from its entry -/
theorem whole_start {p : Program} {e : Env} {s : State} {m : MethodId} {below : List Frame} {meth : Method} {c : Code} (l : Launch) (hflags : l.flags = flags0) {b L : Nat} {xs : Nat → Int32} (hL : L ≤ 3072) (C0 : lw_At p s m meth c b L xs) : W p l e room_1 s m #[Value.ref b] below meth c s.heap [] 0 0 (lw_Z below #[Value.ref b] s) (entryFrame m ([Value.ref b] : List Value).toArray 7) := by
  obtain ⟨hx, hb, hr, hml, hown, hts, hX, hbl, hlocks, hgv⟩ := id C0
  have htg : ∀ w ∈ gtb, w.before #[Value.ref b] s = true := fun w hw => hts w (List.mem_filter.mp hw).1
  have hs := flat_of_before _ hgv
  have hA9 : ∀ a : Nat, a < s.heap.size → ¬ (fun q : Nat => s.heap.size ≤ q) a := fun a h h2 => absurd h2 (Nat.not_le.mpr h)
  obtain ⟨c0, iS0, hKn0⟩ := u_known (C := RX0) (T := TX0) (N := 2) (n := 2) htg inX0 (htg _ a_1091)
  obtain ⟨c1, iS1, hKn1⟩ := u_known (C := RX1) (T := TX1) (N := 7) (n := 7) htg inX1 (htg _ a_1088)
  obtain ⟨c2, iS2, hKn2⟩ := u_known (C := RX2) (T := TX2) (N := 4) (n := 4) htg inX2 (htg _ a_1079)
  obtain ⟨c3, iS3, hKn3⟩ := u_known (C := RX3) (T := TX3) (N := 17) (n := 17) htg inX3 (htg _ a_1094)
  obtain ⟨c4, iS4, hKn4⟩ := u_known (C := RX4) (T := TX4) (N := 17) (n := 17) htg inX4 (htg _ a_1097)
  obtain ⟨c5, iS5, hKn5⟩ := u_known (C := RX5) (T := TX5) (N := 11) (n := 11) htg inX5 (htg _ a_1085)
  obtain ⟨c6, iS6, hKn6⟩ := u_known (C := RX6) (T := TX6) (N := 14) (n := 14) htg inX6 (htg _ a_1221)
  obtain ⟨c7, iS7, hKn7⟩ := u_known (C := RX7) (T := TX7) (N := 42) (n := 42) htg inX7 (htg _ a_1222)
  obtain ⟨dC, dI, hKc⟩ : ∃ (dC : Nat → ClassId) (dI : Nat → Nat → Nat), ∀ (k : Nat) (q : vw_C), vwCl[k]? = some q → u_Kn s q.1 q.2.1 q.2.2 (dC k) (dI k) := by
    refine ⟨fun k => match k with | 0 => c0 | 1 => c1 | 2 => c2 | 3 => c3 | 4 => c4 | 5 => c5 | 6 => c6 | _ => c7, fun k => match k with | 0 => iS0 | 1 => iS1 | 2 => iS2 | 3 => iS3 | 4 => iS4 | 5 => iS5 | 6 => iS6 | _ => iS7, ?_⟩
    intro k q hq
    match k, hq with
    | 0, hq => cases hq; exact hKn0
    | 1, hq => cases hq; exact hKn1
    | 2, hq => cases hq; exact hKn2
    | 3, hq => cases hq; exact hKn3
    | 4, hq => cases hq; exact hKn4
    | 5, hq => cases hq; exact hKn5
    | 6, hq => cases hq; exact hKn6
    | 7, hq => cases hq; exact hKn7
    | k + 8, hq => exact absurd (List.getElem?_eq_some_iff.mp hq).1 (by show ¬ k + 8 < 8; omega)
  obtain ⟨cI, kI, mI, i1I, i2I, i3I⟩ := Cond.arrayClass_spec (type := .int) (htg _ a_1062)
  obtain ⟨cB, kB, mB, i1B, i2B, i3B⟩ := Cond.arrayClass_spec (type := .byte) (htg _ a_1061)
  obtain ⟨cL, kL, mL, i1L, i2L, i3L⟩ := Cond.arrayClass_spec (type := .long) (htg _ a_1102)
  obtain ⟨cZ, kZ, mZ, i1Z, i2Z, i3Z⟩ := Cond.arrayClass_spec (type := .boolean) (htg _ a_1103)
  have hs0 := fl2_at hgv 19 9
  obtain ⟨ak0, av0, hw0, he0⟩ := str1 (own := "OrderSplit$Tape") (k := 66) (len := 5) (byt := [111, 114, 100, 101, 114]) (A := fun q : Nat => s.heap.size ≤ q) (by decide) (hs0 _ (by decide +kernel)) (hs0 _ (by decide +kernel)) (hs0 _ (by decide +kernel)) (hs0 _ (by decide +kernel)) (fun j hj => by rcases (show j = 0 ∨ j = 1 ∨ j = 2 ∨ j = 3 ∨ j = 4 by omega) with rfl | rfl | rfl | rfl | rfl <;> exact hs0 _ (by decide +kernel)) hA9
  have hs1 := fl2_at hgv 45 9
  obtain ⟨ak1, av1, hw1, he1⟩ := str1 (own := "OrderSplit$Tape") (k := 75) (len := 5) (byt := [118, 101, 110, 117, 101]) (A := fun q : Nat => s.heap.size ≤ q) (by decide) (hs1 _ (by decide +kernel)) (hs1 _ (by decide +kernel)) (hs1 _ (by decide +kernel)) (hs1 _ (by decide +kernel)) (fun j hj => by rcases (show j = 0 ∨ j = 1 ∨ j = 2 ∨ j = 3 ∨ j = 4 by omega) with rfl | rfl | rfl | rfl | rfl <;> exact hs1 _ (by decide +kernel)) hA9
  have hs2 := fl2_at hgv 54 9
  obtain ⟨ak2, av2, hw2, he2⟩ := str1 (own := "OrderSplit$Tape") (k := 85) (len := 5) (byt := [108, 101, 118, 101, 108]) (A := fun q : Nat => s.heap.size ≤ q) (by decide) (hs2 _ (by decide +kernel)) (hs2 _ (by decide +kernel)) (hs2 _ (by decide +kernel)) (hs2 _ (by decide +kernel)) (fun j hj => by rcases (show j = 0 ∨ j = 1 ∨ j = 2 ∨ j = 3 ∨ j = 4 by omega) with rfl | rfl | rfl | rfl | rfl <;> exact hs2 _ (by decide +kernel)) hA9
  have hs3 := fl2_at hgv 63 9
  obtain ⟨ak3, av3, hw3, he3⟩ := str1 (own := "OrderSplit$Tape") (k := 90) (len := 5) (byt := [101, 118, 101, 110, 116]) (A := fun q : Nat => s.heap.size ≤ q) (by decide) (hs3 _ (by decide +kernel)) (hs3 _ (by decide +kernel)) (hs3 _ (by decide +kernel)) (hs3 _ (by decide +kernel)) (fun j hj => by rcases (show j = 0 ∨ j = 1 ∨ j = 2 ∨ j = 3 ∨ j = 4 by omega) with rfl | rfl | rfl | rfl | rfl <;> exact hs3 _ (by decide +kernel)) hA9
  have hs4 := fl2_at hgv 28 9
  obtain ⟨ak4, av4, hw4, he4⟩ := str1 (own := "OrderSplit$Tape") (k := 108) (len := 5) (byt := [108, 105, 109, 105, 116]) (A := fun q : Nat => s.heap.size ≤ q) (by decide) (hs4 _ (by decide +kernel)) (hs4 _ (by decide +kernel)) (hs4 _ (by decide +kernel)) (hs4 _ (by decide +kernel)) (fun j hj => by rcases (show j = 0 ∨ j = 1 ∨ j = 2 ∨ j = 3 ∨ j = 4 by omega) with rfl | rfl | rfl | rfl | rfl <;> exact hs4 _ (by decide +kernel)) hA9
  have hs5 := fl2_at hgv 37 8
  obtain ⟨ak5, av5, hw5, he5⟩ := str1 (own := "OrderSplit$Tape") (k := 112) (len := 4) (byt := [108, 105, 102, 101]) (A := fun q : Nat => s.heap.size ≤ q) (by decide) (hs5 _ (by decide +kernel)) (hs5 _ (by decide +kernel)) (hs5 _ (by decide +kernel)) (hs5 _ (by decide +kernel)) (fun j hj => by rcases (show j = 0 ∨ j = 1 ∨ j = 2 ∨ j = 3 by omega) with rfl | rfl | rfl | rfl <;> exact hs5 _ (by decide +kernel)) hA9
  have hs6 := fl2_at hgv 72 9
  obtain ⟨ak6, av6, hw6, he6⟩ := str1 (own := "OrderSplit$Tape") (k := 175) (len := 5) (byt := [112, 108, 97, 105, 110]) (A := fun q : Nat => s.heap.size ≤ q) (by decide) (hs6 _ (by decide +kernel)) (hs6 _ (by decide +kernel)) (hs6 _ (by decide +kernel)) (hs6 _ (by decide +kernel)) (fun j hj => by rcases (show j = 0 ∨ j = 1 ∨ j = 2 ∨ j = 3 ∨ j = 4 by omega) with rfl | rfl | rfl | rfl | rfl <;> exact hs6 _ (by decide +kernel)) hA9
  have hs7 := fl2_at hgv 81 9
  obtain ⟨ak7, av7, hw7, he7⟩ := str1 (own := "OrderSplit$Tape") (k := 177) (len := 5) (byt := [116, 105, 101, 114, 115]) (A := fun q : Nat => s.heap.size ≤ q) (by decide) (hs7 _ (by decide +kernel)) (hs7 _ (by decide +kernel)) (hs7 _ (by decide +kernel)) (hs7 _ (by decide +kernel)) (fun j hj => by rcases (show j = 0 ∨ j = 1 ∨ j = 2 ∨ j = 3 ∨ j = 4 by omega) with rfl | rfl | rfl | rfl | rfl <;> exact hs7 _ (by decide +kernel)) hA9
  have hs8 := fl2_at hgv 90 8
  obtain ⟨ak8, av8, hw8, he8⟩ := str1 (own := "OrderSplit$Tape") (k := 179) (len := 4) (byt := [102, 108, 97, 116]) (A := fun q : Nat => s.heap.size ≤ q) (by decide) (hs8 _ (by decide +kernel)) (hs8 _ (by decide +kernel)) (hs8 _ (by decide +kernel)) (hs8 _ (by decide +kernel)) (fun j hj => by rcases (show j = 0 ∨ j = 1 ∨ j = 2 ∨ j = 3 by omega) with rfl | rfl | rfl | rfl <;> exact hs8 _ (by decide +kernel)) hA9
  have hs9 := fl2_at hgv 98 7
  obtain ⟨ak9, av9, hw9, he9⟩ := str1 (own := "OrderSplit$Tape") (k := 130) (len := 3) (byt := [108, 111, 116]) (A := fun q : Nat => s.heap.size ≤ q) (by decide) (hs9 _ (by decide +kernel)) (hs9 _ (by decide +kernel)) (hs9 _ (by decide +kernel)) (hs9 _ (by decide +kernel)) (fun j hj => by rcases (show j = 0 ∨ j = 1 ∨ j = 2 by omega) with rfl | rfl | rfl <;> exact hs9 _ (by decide +kernel)) hA9
  have hs10 := fl2_at hgv 105 7
  obtain ⟨ak10, av10, hw10, he10⟩ := str1 (own := "OrderSplit$Tape") (k := 181) (len := 3) (byt := [102, 101, 101]) (A := fun q : Nat => s.heap.size ≤ q) (by decide) (hs10 _ (by decide +kernel)) (hs10 _ (by decide +kernel)) (hs10 _ (by decide +kernel)) (hs10 _ (by decide +kernel)) (fun j hj => by rcases (show j = 0 ∨ j = 1 ∨ j = 2 by omega) with rfl | rfl | rfl <;> exact hs10 _ (by decide +kernel)) hA9
  have hs11 := fl2_at hgv 112 9
  obtain ⟨ak11, av11, hw11, he11⟩ := str1 (own := "OrderSplit$Tape") (k := 141) (len := 5) (byt := [108, 101, 97, 115, 116]) (A := fun q : Nat => s.heap.size ≤ q) (by decide) (hs11 _ (by decide +kernel)) (hs11 _ (by decide +kernel)) (hs11 _ (by decide +kernel)) (hs11 _ (by decide +kernel)) (fun j hj => by rcases (show j = 0 ∨ j = 1 ∨ j = 2 ∨ j = 3 ∨ j = 4 by omega) with rfl | rfl | rfl | rfl | rfl <;> exact hs11 _ (by decide +kernel)) hA9
  have hs12 := fl2_at hgv 121 9
  obtain ⟨ak12, av12, hw12, he12⟩ := str1 (own := "OrderSplit$Tape") (k := 146) (len := 5) (byt := [100, 101, 108, 97, 121]) (A := fun q : Nat => s.heap.size ≤ q) (by decide) (hs12 _ (by decide +kernel)) (hs12 _ (by decide +kernel)) (hs12 _ (by decide +kernel)) (hs12 _ (by decide +kernel)) (fun j hj => by rcases (show j = 0 ∨ j = 1 ∨ j = 2 ∨ j = 3 ∨ j = 4 by omega) with rfl | rfl | rfl | rfl | rfl <;> exact hs12 _ (by decide +kernel)) hA9
  have hf0 : (Term.string "OrderSplitModel" 144).eval #[Value.ref b] s none [] s = some (.ref ak0) := va_eqR (fl2_at hgv 139 1 (Cond.eq (.string "OrderSplit$Tape" 66) (.string "OrderSplitModel" 144)) (by decide +kernel)) he0
  have hf1 : (Term.string "OrderSplitModel" 146).eval #[Value.ref b] s none [] s = some (.ref ak1) := va_eqR (fl2_at hgv 168 1 (Cond.eq (.string "OrderSplit$Tape" 75) (.string "OrderSplitModel" 146)) (by decide +kernel)) he1
  have hf2 : (Term.string "OrderSplitModel" 147).eval #[Value.ref b] s none [] s = some (.ref ak2) := va_eqR (fl2_at hgv 178 1 (Cond.eq (.string "OrderSplit$Tape" 85) (.string "OrderSplitModel" 147)) (by decide +kernel)) he2
  have hf3 : (Term.string "OrderSplitModel" 149).eval #[Value.ref b] s none [] s = some (.ref ak3) := va_eqR (fl2_at hgv 188 1 (Cond.eq (.string "OrderSplit$Tape" 90) (.string "OrderSplitModel" 149)) (by decide +kernel)) he3
  have hf4 : (Term.string "OrderSplitModel" 185).eval #[Value.ref b] s none [] s = some (.ref ak4) := va_eqR (fl2_at hgv 149 1 (Cond.eq (.string "OrderSplit$Tape" 108) (.string "OrderSplitModel" 185)) (by decide +kernel)) he4
  have hf5 : (Term.string "OrderSplitModel" 191).eval #[Value.ref b] s none [] s = some (.ref ak5) := va_eqR (fl2_at hgv 158 1 (Cond.eq (.string "OrderSplit$Tape" 112) (.string "OrderSplitModel" 191)) (by decide +kernel)) he5
  have hf6 : (Term.string "OrderSplitModel" 199).eval #[Value.ref b] s none [] s = some (.ref ak6) := va_eqR (fl2_at hgv 198 1 (Cond.eq (.string "OrderSplit$Tape" 175) (.string "OrderSplitModel" 199)) (by decide +kernel)) he6
  have hf7 : (Term.string "OrderSplitModel" 201).eval #[Value.ref b] s none [] s = some (.ref ak7) := va_eqR (fl2_at hgv 208 1 (Cond.eq (.string "OrderSplit$Tape" 177) (.string "OrderSplitModel" 201)) (by decide +kernel)) he7
  have hf8 : (Term.string "OrderSplitModel" 203).eval #[Value.ref b] s none [] s = some (.ref ak8) := va_eqR (fl2_at hgv 217 1 (Cond.eq (.string "OrderSplit$Tape" 179) (.string "OrderSplitModel" 203)) (by decide +kernel)) he8
  have hf9 : (Term.string "OrderSplitModel" 214).eval #[Value.ref b] s none [] s = some (.ref ak9) := va_eqR (fl2_at hgv 225 1 (Cond.eq (.string "OrderSplit$Tape" 130) (.string "OrderSplitModel" 214)) (by decide +kernel)) he9
  have hf10 : (Term.string "OrderSplitModel" 205).eval #[Value.ref b] s none [] s = some (.ref ak10) := va_eqR (fl2_at hgv 233 1 (Cond.eq (.string "OrderSplit$Tape" 181) (.string "OrderSplitModel" 205)) (by decide +kernel)) he10
  have hf11 : (Term.string "OrderSplitModel" 219).eval #[Value.ref b] s none [] s = some (.ref ak11) := va_eqR (fl2_at hgv 243 1 (Cond.eq (.string "OrderSplit$Tape" 141) (.string "OrderSplitModel" 219)) (by decide +kernel)) he11
  have hf12 : (Term.string "OrderSplitModel" 221).eval #[Value.ref b] s none [] s = some (.ref ak12) := va_eqR (fl2_at hgv 253 1 (Cond.eq (.string "OrderSplit$Tape" 146) (.string "OrderSplitModel" 221)) (by decide +kernel)) he12
  obtain ⟨aK, haK⟩ : ∃ aK : Nat → Nat, aK = fun i => ([ak0, ak1, ak2, ak3, ak4, ak5, ak6, ak7, ak8, ak9, ak10, ak11, ak12] : List Nat).getD i 0 := ⟨_, rfl⟩
  obtain ⟨aV, haV⟩ : ∃ aV : Nat → Nat, aV = fun i => ([av0, av1, av2, av3, av4, av5, av6, av7, av8, av9, av10, av11, av12] : List Nat).getD i 0 := ⟨_, rfl⟩
  let G : Gh := ((dC, dI), (fun k => s.heap.size + k), s.heap.size, (cI, cB, cL, cZ), (aK, aV))
  have hK : va_K G.D vwCl (tysOf G) s := by
    refine ⟨hKc, fun k q hq => ?_⟩
    match k, hq with
    | 0, hq => cases hq; exact ⟨fun n z => ⟨fun k h => (by cases h), kI, i2I, mI, i3I⟩, i1I⟩
    | 1, hq => cases hq; exact ⟨fun n z => ⟨fun k h => (by cases h), kB, i2B, mB, i3B⟩, i1B⟩
    | 2, hq => cases hq; exact ⟨fun n z => ⟨fun k h => (by cases h), kL, i2L, mL, i3L⟩, i1L⟩
    | 3, hq => cases hq; exact ⟨fun n z => ⟨fun k h => (by cases h), kZ, i2Z, mZ, i3Z⟩, i1Z⟩
    | k + 4, hq => exact absurd (List.getElem?_eq_some_iff.mp hq).1 (by show ¬ k + 4 < 4; omega)
  have hvS : vS G s s.heap := by
    intro i hi
    show va_O "java/lang/String" (aK i) _ s s.heap ∧ va_OF "java/lang/String" "coder" "B" (.int 0) (aK i) _ s s.heap ∧ va_OF "java/lang/String" "value" "[B" (.ref (aV i)) (aK i) _ s s.heap ∧ va_T .byte (aV i) (txL.getD i 0) (fun j => .int ((txB.getD i []).getD j 0)) _ s s.heap
    rw [haK, haV]
    match i, hi with
    | 0, _ => exact hw0
    | 1, _ => exact hw1
    | 2, _ => exact hw2
    | 3, _ => exact hw3
    | 4, _ => exact hw4
    | 5, _ => exact hw5
    | 6, _ => exact hw6
    | 7, _ => exact hw7
    | 8, _ => exact hw8
    | 9, _ => exact hw9
    | 10, _ => exact hw10
    | 11, _ => exact hw11
    | 12, _ => exact hw12
    | i + 13, hi => exact absurd hi (by omega)
  have hvR : ∀ q ∈ txR, vk_R q.1 q.2.1 (txS.getD q.2.2 "") (G.aK q.2.2) s := by
    intro q hq
    show vk_R q.1 q.2.1 (txS.getD q.2.2 "") (aK q.2.2) s
    rw [haK]
    rcases List.mem_cons.mp hq with rfl | hq
    · exact vk_R.of (hts (Cond.stringRef "OrderSplit$Tape" 66 "order") (List.mem_append_right _ (List.mem_append_right _ (List.mem_append_left _ (List.mem_of_getElem? (i := 151) (by decide +kernel)))))) he0
    rcases List.mem_cons.mp hq with rfl | hq
    · exact vk_R.of (hts (Cond.stringRef "OrderSplit$Tape" 108 "limit") (List.mem_append_right _ (List.mem_append_right _ (List.mem_append_left _ (List.mem_of_getElem? (i := 220) (by decide +kernel)))))) he4
    rcases List.mem_cons.mp hq with rfl | hq
    · exact vk_R.of (hts (Cond.stringRef "OrderSplit$Tape" 112 "life") (List.mem_append_right _ (List.mem_append_right _ (List.mem_append_left _ (List.mem_of_getElem? (i := 221) (by decide +kernel)))))) he5
    rcases List.mem_cons.mp hq with rfl | hq
    · exact vk_R.of (hts (Cond.stringRef "OrderSplit$Tape" 75 "venue") (List.mem_append_right _ (List.mem_append_right _ (List.mem_append_left _ (List.mem_of_getElem? (i := 222) (by decide +kernel)))))) he1
    rcases List.mem_cons.mp hq with rfl | hq
    · exact vk_R.of (hts (Cond.stringRef "OrderSplit$Tape" 85 "level") (List.mem_append_right _ (List.mem_append_right _ (List.mem_append_left _ (List.mem_of_getElem? (i := 235) (by decide +kernel)))))) he2
    rcases List.mem_cons.mp hq with rfl | hq
    · exact vk_R.of (hts (Cond.stringRef "OrderSplit$Tape" 90 "event") (List.mem_append_right _ (List.mem_append_right _ (List.mem_append_left _ (List.mem_of_getElem? (i := 236) (by decide +kernel)))))) he3
    rcases List.mem_cons.mp hq with rfl | hq
    · exact vk_R.of (hts (Cond.stringRef "OrderSplit$Tape" 175 "plain") (List.mem_append_right _ (List.mem_append_right _ (List.mem_append_right _ (List.mem_append_left _ (List.mem_of_getElem? (i := 5) (by decide +kernel))))))) he6
    rcases List.mem_cons.mp hq with rfl | hq
    · exact vk_R.of (hts (Cond.stringRef "OrderSplit$Tape" 177 "tiers") (List.mem_append_right _ (List.mem_append_right _ (List.mem_append_right _ (List.mem_append_left _ (List.mem_of_getElem? (i := 6) (by decide +kernel))))))) he7
    rcases List.mem_cons.mp hq with rfl | hq
    · exact vk_R.of (hts (Cond.stringRef "OrderSplit$Tape" 179 "flat") (List.mem_append_right _ (List.mem_append_right _ (List.mem_append_right _ (List.mem_append_left _ (List.mem_of_getElem? (i := 7) (by decide +kernel))))))) he8
    rcases List.mem_cons.mp hq with rfl | hq
    · exact vk_R.of (hts (Cond.stringRef "OrderSplit$Tape" 130 "lot") (List.mem_append_right _ (List.mem_append_right _ (List.mem_append_right _ (List.mem_append_left _ (List.mem_of_getElem? (i := 8) (by decide +kernel))))))) he9
    rcases List.mem_cons.mp hq with rfl | hq
    · exact vk_R.of (hts (Cond.stringRef "OrderSplit$Tape" 181 "fee") (List.mem_append_right _ (List.mem_append_right _ (List.mem_append_right _ (List.mem_append_left _ (List.mem_of_getElem? (i := 13) (by decide +kernel))))))) he10
    rcases List.mem_cons.mp hq with rfl | hq
    · exact vk_R.of (hts (Cond.stringRef "OrderSplit$Tape" 141 "least") (List.mem_append_right _ (List.mem_append_right _ (List.mem_append_right _ (List.mem_append_left _ (List.mem_of_getElem? (i := 14) (by decide +kernel))))))) he11
    rcases List.mem_cons.mp hq with rfl | hq
    · exact vk_R.of (hts (Cond.stringRef "OrderSplit$Tape" 146 "delay") (List.mem_append_right _ (List.mem_append_right _ (List.mem_append_right _ (List.mem_append_left _ (List.mem_of_getElem? (i := 15) (by decide +kernel))))))) he12
    rcases List.mem_cons.mp hq with rfl | hq
    · exact vk_R.of (hts (Cond.stringRef "OrderSplitModel" 144 "order") (List.mem_append_right _ (List.mem_append_right _ (List.mem_append_right _ (List.mem_append_right _ (List.mem_append_right _ (List.mem_append_left _ (List.mem_of_getElem? (i := 192) (by decide +kernel))))))))) hf0
    rcases List.mem_cons.mp hq with rfl | hq
    · exact vk_R.of (hts (Cond.stringRef "OrderSplitModel" 185 "limit") (List.mem_append_right _ (List.mem_append_right _ (List.mem_append_right _ (List.mem_append_right _ (List.mem_append_right _ (List.mem_append_left _ (List.mem_of_getElem? (i := 211) (by decide +kernel))))))))) hf4
    rcases List.mem_cons.mp hq with rfl | hq
    · exact vk_R.of (hts (Cond.stringRef "OrderSplitModel" 191 "life") (List.mem_append_right _ (List.mem_append_right _ (List.mem_append_right _ (List.mem_append_right _ (List.mem_append_right _ (List.mem_append_left _ (List.mem_of_getElem? (i := 216) (by decide +kernel))))))))) hf5
    rcases List.mem_cons.mp hq with rfl | hq
    · exact vk_R.of (hts (Cond.stringRef "OrderSplitModel" 146 "venue") (List.mem_append_right _ (List.mem_append_right _ (List.mem_append_right _ (List.mem_append_right _ (List.mem_append_right _ (List.mem_append_left _ (List.mem_of_getElem? (i := 217) (by decide +kernel))))))))) hf1
    rcases List.mem_cons.mp hq with rfl | hq
    · exact vk_R.of (hts (Cond.stringRef "OrderSplitModel" 147 "level") (List.mem_append_right _ (List.mem_append_right _ (List.mem_append_right _ (List.mem_append_right _ (List.mem_append_right _ (List.mem_append_left _ (List.mem_of_getElem? (i := 230) (by decide +kernel))))))))) hf2
    rcases List.mem_cons.mp hq with rfl | hq
    · exact vk_R.of (hts (Cond.stringRef "OrderSplitModel" 149 "event") (List.mem_append_right _ (List.mem_append_right _ (List.mem_append_right _ (List.mem_append_right _ (List.mem_append_right _ (List.mem_append_left _ (List.mem_of_getElem? (i := 231) (by decide +kernel))))))))) hf3
    rcases List.mem_cons.mp hq with rfl | hq
    · exact vk_R.of (hts (Cond.stringRef "OrderSplitModel" 199 "plain") (List.mem_append_right _ (List.mem_append_right _ (List.mem_append_right _ (List.mem_append_right _ (List.mem_append_right _ (List.mem_append_right _ (List.mem_append_left _ (List.mem_of_getElem? (i := 0) (by decide +kernel)))))))))) hf6
    rcases List.mem_cons.mp hq with rfl | hq
    · exact vk_R.of (hts (Cond.stringRef "OrderSplitModel" 201 "tiers") (List.mem_append_right _ (List.mem_append_right _ (List.mem_append_right _ (List.mem_append_right _ (List.mem_append_right _ (List.mem_append_right _ (List.mem_append_left _ (List.mem_of_getElem? (i := 1) (by decide +kernel)))))))))) hf7
    rcases List.mem_cons.mp hq with rfl | hq
    · exact vk_R.of (hts (Cond.stringRef "OrderSplitModel" 203 "flat") (List.mem_append_right _ (List.mem_append_right _ (List.mem_append_right _ (List.mem_append_right _ (List.mem_append_right _ (List.mem_append_right _ (List.mem_append_left _ (List.mem_of_getElem? (i := 2) (by decide +kernel)))))))))) hf8
    rcases List.mem_cons.mp hq with rfl | hq
    · exact vk_R.of (hts (Cond.stringRef "OrderSplitModel" 214 "lot") (List.mem_append_right _ (List.mem_append_right _ (List.mem_append_right _ (List.mem_append_right _ (List.mem_append_right _ (List.mem_append_right _ (List.mem_append_left _ (List.mem_of_getElem? (i := 3) (by decide +kernel)))))))))) hf9
    rcases List.mem_cons.mp hq with rfl | hq
    · exact vk_R.of (hts (Cond.stringRef "OrderSplitModel" 205 "fee") (List.mem_append_right _ (List.mem_append_right _ (List.mem_append_right _ (List.mem_append_right _ (List.mem_append_right _ (List.mem_append_right _ (List.mem_append_left _ (List.mem_of_getElem? (i := 8) (by decide +kernel)))))))))) hf10
    rcases List.mem_cons.mp hq with rfl | hq
    · exact vk_R.of (hts (Cond.stringRef "OrderSplitModel" 219 "least") (List.mem_append_right _ (List.mem_append_right _ (List.mem_append_right _ (List.mem_append_right _ (List.mem_append_right _ (List.mem_append_right _ (List.mem_append_left _ (List.mem_of_getElem? (i := 13) (by decide +kernel)))))))))) hf11
    rcases List.mem_cons.mp hq with rfl | hq
    · exact vk_R.of (hts (Cond.stringRef "OrderSplitModel" 221 "delay") (List.mem_append_right _ (List.mem_append_right _ (List.mem_append_right _ (List.mem_append_right _ (List.mem_append_right _ (List.mem_append_right _ (List.mem_append_left _ (List.mem_of_getElem? (i := 14) (by decide +kernel)))))))))) hf12
    cases hq
  have hvN : ∀ q ∈ nsL, va_Nw (.methodLinkNest q.1 q.2.1 q.2.2.1 q.2.2.2) s := by
    intro q hq
    rcases List.mem_cons.mp hq with rfl | hq
    · exact va_Nw.of rfl (hts (Cond.methodLinkNest RX6 11 yX5_init "OrderSplit") (List.mem_append_right _ (List.mem_append_left _ (List.mem_of_getElem? (i := 29) (by decide +kernel)))))
    rcases List.mem_cons.mp hq with rfl | hq
    · exact va_Nw.of rfl (hts (Cond.methodLinkNest RX6 20 yX1_init "OrderSplit") (List.mem_append_right _ (List.mem_append_left _ (List.mem_of_getElem? (i := 74) (by decide +kernel)))))
    rcases List.mem_cons.mp hq with rfl | hq
    · exact va_Nw.of rfl (hts (Cond.methodLinkNest RX6 27 yX0_init "OrderSplit") (List.mem_append_right _ (List.mem_append_left _ (List.mem_of_getElem? (i := 106) (by decide +kernel)))))
    rcases List.mem_cons.mp hq with rfl | hq
    · exact va_Nw.of rfl (hts (Cond.methodLinkNest RX6 34 yX3_init "OrderSplit") (List.mem_append_right _ (List.mem_append_left _ (List.mem_of_getElem? (i := 122) (by decide +kernel)))))
    rcases List.mem_cons.mp hq with rfl | hq
    · exact va_Nw.of rfl (hts (Cond.methodLinkNest RX6 50 yX4_init "OrderSplit") (List.mem_append_right _ (List.mem_append_left _ (List.mem_of_getElem? (i := 227) (by decide +kernel)))))
    rcases List.mem_cons.mp hq with rfl | hq
    · exact va_Nw.of rfl (hts (Cond.methodLinkNest RX4 64 yX2_init "OrderSplit") (List.mem_append_right _ (List.mem_append_left _ (List.mem_of_getElem? (i := 233) (by decide +kernel)))))
    rcases List.mem_cons.mp hq with rfl | hq
    · exact va_Nw.of rfl (hts (Cond.methodLinkNest RX5 160 yX6_slot "OrderSplit") (List.mem_append_right _ (List.mem_append_right _ (List.mem_append_right _ (List.mem_append_left _ (List.mem_of_getElem? (i := 24) (by decide +kernel)))))))
    rcases List.mem_cons.mp hq with rfl | hq
    · exact va_Nw.of rfl (hts (Cond.methodLinkNest RX0 41 yX6_slot "OrderSplit") (List.mem_append_right _ (List.mem_append_right _ (List.mem_append_right _ (List.mem_append_left _ (List.mem_of_getElem? (i := 173) (by decide +kernel)))))))
    rcases List.mem_cons.mp hq with rfl | hq
    · exact va_Nw.of rfl (hts (Cond.methodLinkNest RX4 174 yX6_slot "OrderSplit") (List.mem_append_right _ (List.mem_append_right _ (List.mem_append_right _ (List.mem_append_right _ (List.mem_append_left _ (List.mem_of_getElem? (i := 107) (by decide +kernel))))))))
    cases hq
  have hT : TxOk G s s.heap := ⟨hvS, hvR, va_Zof (hts (Cond.laysStatic "java/lang/String" "COMPACT_STRINGS" "Z") (List.mem_append_right _ (List.mem_append_right _ (List.mem_append_left _ (List.mem_of_getElem? (i := 165) (by decide +kernel)))))) (hts (Cond.initialized "java/lang/String") (List.mem_append_right _ (List.mem_append_left _ (List.mem_of_getElem? (i := 9) (by decide +kernel))))) (va_eqi (hs _ (by decide +kernel))) hA9, hvN, va_Zqof (hts (Cond.laysStatic "jdk/internal/util/Preconditions" "SIOOBE_FORMATTER" "Ljava/util/function/BiFunction;") (List.mem_append_right _ (List.mem_append_right _ (List.mem_append_left _ (List.mem_of_getElem? (i := 181) (by decide +kernel)))))) (hts (Cond.initialized "jdk/internal/util/Preconditions") (List.mem_append_right _ (List.mem_append_left _ (List.mem_of_getElem? (i := 11) (by decide +kernel))))) (hs _ (by decide +kernel)) hA9⟩
  have hXk : Xk G s s.heap := ⟨⟨va_Nw.of rfl (hts (Cond.castable xN xN) (List.mem_append_right _ (List.mem_append_right _ (List.mem_append_right _ (List.mem_append_right _ (List.mem_append_left _ (List.mem_of_getElem? (i := 195) (by decide +kernel)))))))), va_Nw.of rfl (hts (Cond.declares xD1) (List.mem_append_right _ (List.mem_append_right _ (List.mem_append_right _ (List.mem_append_right _ (List.mem_append_left _ (List.mem_of_getElem? (i := 196) (by decide +kernel)))))))), va_Nw.of rfl (hts (Cond.declares xD2) (List.mem_append_right _ (List.mem_append_right _ (List.mem_append_right _ (List.mem_append_right _ (List.mem_append_left _ (List.mem_of_getElem? (i := 198) (by decide +kernel)))))))), va_Nw.of rfl (hts (Cond.declares xD3) (List.mem_append_right _ (List.mem_append_right _ (List.mem_append_right _ (List.mem_append_right _ (List.mem_append_left _ (List.mem_of_getElem? (i := 200) (by decide +kernel))))))))⟩, vx_Zqof (hts (Cond.laysStatic Bundle.tN "UNASSIGNED_STACK" Bundle.steD) (List.mem_append_right _ (List.mem_append_right _ (List.mem_append_right _ (List.mem_append_right _ (List.mem_append_left _ (List.mem_of_getElem? (i := 220) (by decide +kernel)))))))) (hts (Cond.initialized Bundle.tN) (List.mem_append_right _ (List.mem_append_left _ (List.mem_of_getElem? (i := 15) (by decide +kernel))))) (hs _ (by decide +kernel)) hA9, vx_Zqof (hts (Cond.laysStatic Bundle.tN "SUPPRESSED_SENTINEL" Bundle.listD) (List.mem_append_right _ (List.mem_append_right _ (List.mem_append_right _ (List.mem_append_right _ (List.mem_append_left _ (List.mem_of_getElem? (i := 222) (by decide +kernel)))))))) (hts (Cond.initialized Bundle.tN) (List.mem_append_right _ (List.mem_append_left _ (List.mem_of_getElem? (i := 15) (by decide +kernel))))) (hs _ (by decide +kernel)) hA9⟩
  have htr : l.stackTraces = false := by unfold Launch.stackTraces; rw [hflags]; decide +kernel
  have hAd : AdOk G := ⟨fun i j _ _ h => Nat.add_left_cancel h, fun k _ => Nat.le_add_right _ _⟩
  have hO : Ok (lawK p l e s m below meth c b G) cL_law RL 7 room_1 := ⟨hx, hb, hml, hown, htg, hK, hAd, hlocks, hT, Nat.le_refl _, rfl⟩
  have hl := lv_entry [.ref b] (n := 7) (Nat.le_of_ble_eq_true rfl)
  rw [lg_entry_eq]
  exact law_go hO ⟨hX, hbl, rfl, htr, hXk⟩ hr hL (law_pure hL xs) s.heap [] _ (fun k q h => by simp at h) ⟨fun i j p q h => (by simp at h), fun k q h => (by simp at h)⟩ va_S.rf hl

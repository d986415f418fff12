theorem str1 {s : State} {args : Array Value} {own : String} {k len : Nat} {byt : List Int32} {A : Nat → Prop} (hN : len < 2 ^ 31) (hex : (Cond.exactly (.string own k) "java/lang/String").before args s = true) (hco : (Cond.eq (.field (.string own k) "java/lang/String" "coder" "B") (.int 0)).before args s = true) (har : (Cond.arrayOf (.field (.string own k) "java/lang/String" "value" "[B") .byte).before args s = true) (hle : (Cond.eq (.length (.field (.string own k) "java/lang/String" "value" "[B")) (.int (Int32.ofNat len))).before args s = true)
    (hel : ∀ j : Nat, j < len → (Cond.eq (.elem (.field (.string own k) "java/lang/String" "value" "[B") (.int (Int32.ofNat j))) (.int (byt.getD j 0))).before args s = true) (hA : ∀ a : Nat, a < s.heap.size → ¬ A a) :
    ∃ ak av : Nat, (va_O "java/lang/String" ak A s s.heap ∧ va_OF "java/lang/String" "coder" "B" (.int 0) ak A s s.heap ∧ va_OF "java/lang/String" "value" "[B" (.ref av) ak A s s.heap ∧ va_T .byte av len (fun j => .int (byt.getD j 0)) A s s.heap) ∧ (Term.string own k).eval args s none [] s = some (.ref ak) := by
  have z : ∀ i : Nat, i < 1 → i = 0 := fun i h => by omega
  obtain ⟨adK, adV, h1, h2⟩ := vk_Sof (args := args) (s := s) (N := 1) (tm := fun _ => .string own k) (len := [len]) (byt := [byt]) (A := A) (fun i hi => by rw [z i hi]; exact hN) (fun i hi => hex) (fun i hi => hco) (fun i hi => har) (fun i hi => by rw [z i hi]; exact hle) (fun i hi j hj => by rw [z i hi] at hj ⊢; exact hel j hj) (fun i j hi hj hne => absurd ((z i hi).trans (z j hj).symm) hne) hA
  exact ⟨adK 0, adV 0, h1.1 0 (by decide), h2 0 (by decide)⟩
def σ0 : Wd := (s0, (fun _ _ => 0), r0)
section CBX
variable {K : Kt} {nL : Nat} {A0 : Nat → Prop} {cs : Nat × Nat} {ws : va_W} {Q : State → Prop} {pc : Nat} {lv : List (Nat × Value)} {st : List Value} {cc : ByteArray} {own : String} {rm : Room}
theorem q_astore {q : Fin 4} {i x : Nat} (hO : Ok K cc own nL rm) (hi : (q : Nat) = i) (hn : Nat.blt i nL = true) (hc : lok lv i = true) (d : decode cc pc = .ok (.astore_n q, 1)) (k : Cb K nL A0 cs ws Q (pc + 1) (lset lv i (.ref x)) st) : Cb K nL A0 cs ws Q pc lv (.ref x :: st) := fun H locs ls hP hD hS hl => lv_astore_n hO.x hO.b d hi hl (Nat.le_of_ble_eq_true hn) rfl (fun ls' hl' => k H locs ls' hP hD hS (has_lset hc hl'))
theorem q_istore {i : Nat} {x : Int32} (hO : Ok K cc own nL rm) (hn : Nat.blt i nL = true) (hc : lok lv i = true) (d : decode cc pc = .ok (.istore i, 2)) (k : Cb K nL A0 cs ws Q (pc + 2) (lset lv i (.int x)) st) : Cb K nL A0 cs ws Q pc lv (.int x :: st) := fun H locs ls hP hD hS hl => lv_istore hO.x hO.b d hl (Nat.le_of_ble_eq_true hn) rfl (fun ls' hl' => k H locs ls' hP hD hS (has_lset hc hl'))
end CBX
set_option maxRecDepth 100000 in
set_option maxHeartbeats 4000000 in
/-- from the entry to the loop's head: the two objects and the row are made -/
theorem law_ctors {p : Program} {l : Launch} {e : Env} {s : State} {m : MethodId} {below : List Frame} {meth : Method} {c : Code} {b : Nat} {G : Gh} {Q : State → Prop} (hO : Ok (lawK p l e s m below meth c b G) cL_law RL 7 room_1) (hg : Rg (lawK p l e s m below meth c b G) (zA G)) (k : ∀ (B1 B2 : Nat → Nat) (q3 : Nat), Cb (lawK p l e s m below meth c b G) 7 (zA G) (121, 5989) (([] ++ F_X6 G B1) ++ F_X7 G B2 ++ [(q3, .inl (G.T.2.2.1, 1, .inr (.inl (fun _ => 0))))]) Q 23 (lset (lset (lset (lset [(0, .ref b)] 1 (.ref (B1 0))) 2 (.ref (B2 0))) 3 (.ref q3)) 4 (.int 0)) []) : Cb (lawK p l e s m below meth c b G) 7 (zA G) (0, 0) [] Q 0 [(0, .ref b)] [] := by
  refine q_new (fs := [.null, .null, .null, .null, .null, .null, .null, .null, .null, .null, .int 0, .int 0, .int 0, .int 0]) (ci := 6) (N := 14) tyX6 hO hg inX6 tyX6_ok a_1219 a_1221 a_2 rfl (by decide) (Nat.le_of_ble_eq_true rfl) (Nat.le_of_ble_eq_true rfl) dL_law_0 (fun q1 hq1 => ?_)
  refine q_dup hO rfl dL_law_3 ?_
  refine q_initI hO hg hq1 (c_X6_init G) cal_X6_init a_1223 rfl rfl rfl (Nat.le_of_ble_eq_true rfl) (Nat.le_of_ble_eq_true rfl) dL_law_4 ?_
  intro B1 hB1
  subst hB1
  refine q_astore (i := 1) hO rfl rfl rfl dL_law_7 ?_
  refine q_new (fs := [.int 0, .int 0, .int 0, .null, .null, .null, .null, .null, .null, .null, .null, .null, .int 0, .int 0, .int 0, .int 0, .int 0, .int 0, .int 0, .int 0, .int 0, .int 0, .null, .null, .null, .int 0, .null, .int 0, .int 0, .int 0, .int 0, .int 0, .int 0, .int 0, .long 0, .null, .null, .int 0, .int 0, .int 0, .null, .null]) (ci := 7) (N := 42) tyX7 hO hg inX7 tyX7_ok a_1220 a_1222 a_464 rfl (by decide) (Nat.le_of_ble_eq_true rfl) (Nat.le_of_ble_eq_true rfl) dL_law_8 (fun q2 hq2 => ?_)
  refine q_dup hO rfl dL_law_11 ?_
  refine q_initI hO hg hq2 (c_X7_init G) cal_X7_init a_1224 rfl rfl rfl (Nat.le_of_ble_eq_true rfl) (Nat.le_of_ble_eq_true rfl) dL_law_12 ?_
  intro B2 hB2
  subst hB2
  refine q_astore (i := 2) hO rfl rfl rfl dL_law_15 ?_
  refine q_iconst hO ci_1 dL_law_16 ?_
  refine q_newa (atype := .long) (a0 := (1, .inr (.inl (fun _ => 0)))) (N := 1) (t0 := 2) (cA := G.T.2.2.1) (ty := .long) hO hg a_1102 rfl rfl (fun h => h) (fun _ h => h) (fun _ => rfl) (by decide) rfl (by decide) (Nat.le_of_ble_eq_true rfl) (Nat.le_of_ble_eq_true rfl) dL_law_17 (fun q3 => ?_)
  refine q_astore (i := 3) hO rfl rfl rfl dL_law_19 ?_
  refine q_iconst hO ci_0 dL_law_20 ?_
  refine q_istore hO rfl rfl dL_law_21 ?_
  exact k B1 B2 q3
set_option maxRecDepth 100000 in
set_option maxHeartbeats 4000000 in
theorem ws_law {G : Gh} {B1 B2 : Nat → Nat} {q3 : Nat} : wsOf (gA G (fun k => if k < 102 then B1 k else if k < 120 then B2 (k - 102) else q3)) σ0 = (([] ++ F_X6 G B1) ++ F_X7 G B2) ++ [(q3, .inl (G.T.2.2.1, 1, .inr (.inl (fun _ => 0))))] := rfl
set_option maxHeartbeats 4000000 in
/-- the loop, from the list of cells -/
theorem law_go {p : Program} {l : Launch} {e : Env} {s : State} {m : MethodId} {below : List Frame} {meth : Method} {c : Code} {b L : Nat} {xs : Nat → Int32} {G : Gh} (hO : Ok (lawK p l e s m below meth c b G) cL_law RL 7 room_1) (hL : LawX (lawK p l e s m below meth c b G) b L xs) (hr : meth.sig.returnType = ret) (hN : L ≤ 3072) (hpure : ∃ σ', f_law L xs FU 0 σ0 = some (1, σ')) : Cb (lawK p l e s m below meth c b G) 7 (zA G) (0, 0) [] (lw_Z below #[Value.ref b] s) 0 [(0, .ref b)] [] := by
  have hz : G.z = s.heap.size := hL.2.2.1
  refine law_ctors hO ⟨fun q h => by show G.z ≤ q; rw [hz]; exact h, fun q h => h⟩ ?_
  intro B1 B2 q3 H locs ls hP hD hS hl
  have hP : va_P G.D vwCl (wsOf (gA G (fun k => if k < 102 then B1 k else if k < 120 then B2 (k - 102) else q3)) σ0) H := by rw [ws_law]; exact hP
  have hD : va_D (zA G) (wsOf (gA G (fun k => if k < 102 then B1 k else if k < 120 then B2 (k - 102) else q3)) σ0) := by rw [ws_law]; exact hD
  generalize hAe : (fun k => if k < 102 then B1 k else if k < 120 then B2 (k - 102) else q3) = A at hP hD
  have e0 : A 0 = B1 0 := by rw [← hAe]; rfl
  have e1 : A 102 = B2 0 := by rw [← hAe]; rfl
  have e2 : A 120 = q3 := by rw [← hAe]; rfl
  have hAd : AdOk (gA G A) := ⟨fun i j hi hj h => hD.1 i j _ _ (wsOf_at hi) (wsOf_at hj) h, fun k hk => hD.2 k _ (wsOf_at hk)⟩
  have hO2 : Ok (lawK p l e s m below meth c b (gA G A)) cL_law RL 7 room_1 := ⟨hO.x, hO.b, hO.ml, hO.own, hO.ts, hO.k, hAd, hO.lk, hO.tx, hO.z, rfl⟩
  obtain ⟨σ', hp⟩ := hpure
  refine b_law (G := gA G A) hO2 hL hr hN FU 0 σ0 (Nat.zero_le _) (1, σ') hp H locs ls hP hS ?_
  refine ⟨hl.1, hl.2.1, fun q hq => hl.2.2 q (lsub_mem (r := [(0, .ref b), (1, .ref (A 0)), (2, .ref (A 102)), (3, .ref (A 120)), (4, .int (nI (6 * 0)))]) ?_ q hq)⟩
  rw [e0, e1, e2]
  exact lsub_c rfl (lsub_c rfl (lsub_c rfl (lsub_c rfl (lsub_c rfl lsub_n))))

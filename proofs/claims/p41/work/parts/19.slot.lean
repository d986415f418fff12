/-! OrderSplit.slot -/
def f_X6_slot (a0 : Int32) (a1 : Int32) (σ : Wd) : Option (Int32 × Wd) := some ((a0 * (6 : Int32)) + a1, σ)
set_option maxRecDepth 20000 in
set_option maxHeartbeats 1000000 in
theorem b_X6_slot {K : Kt}  (hO : Ok K cX6_slot RX6 2 rm_X6_slot) (hR : Rt K (some .int))  (a0 : Int32) (a1 : Int32) (σ : Wd) : Cm K 2 (0, 0) (f_X6_slot a0 a1 σ) σ 0 [(0, .int a0), (1, .int a1)] [] := by
  refine r_iload_n (i := 0) hO rfl rfl dX6_slot_0 ?_
  refine r_bipush hO bi_6 dX6_slot_1 ?_
  refine r_imul hO dX6_slot_3 ?_
  refine r_iload_n (i := 1) hO rfl rfl dX6_slot_4 ?_
  refine r_iadd hO dX6_slot_5 ?_
  exact r_iret hO hR dX6_slot_6
theorem c_X6_slot {l : Launch} {G : Gh}   (a0 : Int32) (a1 : Int32) (σ : Wd) : Con l G yX6_slot cX6_slot 2 (some .int) 0 0 [.int a0, .int a1] σ (f_X6_slot a0 a1 σ) := Con.of (plainFor_of_name (by decide)) rfl (Nat.le_of_ble_eq_true rfl) (fun K hl hG hO hR => by subst hl; subst hG; exact b_X6_slot hO hR  a0 a1 σ)
theorem cal_X6_slot : CalS yX6_slot cX6_slot 2 (some .int) 2 := ⟨a_0, a_1, a_2, by decide, by decide, by decide +kernel⟩
theorem k_X6_slot {K : Kt} {nL : Nat} {cs : Nat × Nat} {σ : Wd} {pc : Nat} {lv : List (Nat × Value)} {st : List Value} {cc : ByteArray} {own : String} {rm : Room} {index : Nat} {g : Int32 → Wd → Option (Int32 × Wd)} {a0 : Int32} {a1 : Int32} (hO : Ok K cc own nL rm)  (hl : Cond.methodLink own index yX6_slot ∈ gtb) (hcat : Nat.ble ((st.map fun v => v.category).sum) 8 = true) (hR : RoomOk rm cs 0 0 2) (d : decode cc pc = .ok (.invokestatic index, 3)) (kk : ∀ (r : Int32) (σ : Wd), Cm K nL cs (g r σ) σ (pc + 3) lv (.int r :: st)) : Cm K nL cs (bd (f_X6_slot a0 a1 σ) g) σ pc lv (.int a1 :: .int a0 :: st) := r_cSi hO (c_X6_slot  a0 a1 σ) cal_X6_slot hl rfl rfl hcat hR d kk
theorem kN_X6_slot {K : Kt} {nL : Nat} {cs : Nat × Nat} {σ : Wd} {pc : Nat} {lv : List (Nat × Value)} {st : List Value} {cc : ByteArray} {own : String} {rm : Room} {index : Nat} {g : Int32 → Wd → Option (Int32 × Wd)} {a0 : Int32} {a1 : Int32} (hO : Ok K cc own nL rm)  (hl : (own, index, yX6_slot, "OrderSplit") ∈ nsL) (hcat : Nat.ble ((st.map fun v => v.category).sum) 8 = true) (hR : RoomOk rm cs 0 0 2) (d : decode cc pc = .ok (.invokestatic index, 3)) (kk : ∀ (r : Int32) (σ : Wd), Cm K nL cs (g r σ) σ (pc + 3) lv (.int r :: st)) : Cm K nL cs (bd (f_X6_slot a0 a1 σ) g) σ pc lv (.int a1 :: .int a0 :: st) := r_cSNi hO (c_X6_slot  a0 a1 σ) cal_X6_slot hl rfl rfl hcat hR d kk

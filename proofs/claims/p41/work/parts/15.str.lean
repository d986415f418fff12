def tch (i : Nat) (j : Int32) : Int32 := (txB.getD i []).getD (ix j) 0
def okc (b : Int32) : Bool := decide (b &&& 255 = b) && (decide ((b.toUInt32 % 65536).toInt32 = b) && decide (narrow .char (.int b) = .int b))
theorem okc_all : (txB.all fun l => l.all okc) = true := by decide +kernel
theorem okc_tch (i : Nat) (j : Int32) : okc (tch i j) = true := by
  unfold tch
  have h0 : okc 0 = true := by decide +kernel
  rw [List.getD_eq_getElem?_getD, List.getD_eq_getElem?_getD]
  cases h : txB[i]? with
  | none => exact h0
  | some l =>
    show okc ((l[ix j]?).getD 0) = true
    cases h2 : l[ix j]? with
    | none => exact h0
    | some b => exact List.all_eq_true.mp (List.all_eq_true.mp okc_all l (List.mem_of_getElem? h)) b (List.mem_of_getElem? h2)
theorem tch_and (i : Nat) (j : Int32) : tch i j &&& 255 = tch i j := by
  have h := okc_tch i j
  unfold okc at h
  rw [Bool.and_eq_true] at h
  exact of_decide_eq_true h.1
theorem tch_c (i : Nat) (j : Int32) : ((tch i j).toUInt32 % 65536).toInt32 = tch i j := by
  have h := okc_tch i j
  unfold okc at h
  rw [Bool.and_eq_true, Bool.and_eq_true] at h
  exact of_decide_eq_true h.2.1
theorem tch_n (i : Nat) (j : Int32) : narrow .char (.int (tch i j)) = .int (tch i j) := by
  have h := okc_tch i j
  unfold okc at h
  rw [Bool.and_eq_true, Bool.and_eq_true] at h
  exact of_decide_eq_true h.2.2
theorem txL_lt (i : Nat) : txL.getD i 0 < 2 ^ 31 := by
  rw [List.getD_eq_getElem?_getD]
  cases h : txL[i]? with
  | none => exact (by decide)
  | some l => exact (List.all_eq_true.mp (by decide +kernel : (txL.all fun l => Nat.blt l (2 ^ 31)) = true) l (List.mem_of_getElem? h) |> Nat.le_of_ble_eq_true)
theorem inb_lt {i : Int32} {n : Nat} (hn : n < 2 ^ 31) (h : inb i n = true) : ¬ i < 0 ∧ i < nI n := by
  have h1 := vp_in_iff.mp (inb_in h)
  refine ⟨fun q => ?_, ?_⟩
  · have := Int32.lt_iff_toInt_lt.mp q
    rw [show (0 : Int32).toInt = 0 from rfl] at this
    omega
  · refine Int32.lt_iff_toInt_lt.mpr ?_
    rw [nI_toInt hn]
    exact h1.2
section STR
variable {K : Kt} {nL : Nat} {cs : Nat × Nat} {e : Option (Int32 × Wd)} {σ : Wd} {pc : Nat} {lv : List (Nat × Value)} {st : List Value} {cc : ByteArray} {rm : Room} {own : String}
theorem r_i2c {x v : Int32} (hO : Ok K cc own nL rm) (hv : (x.toUInt32 % 65536).toInt32 = v) (d : decode cc pc = .ok (.i2c, 1)) (k : Cm K nL cs e σ (pc + 1) lv (.int v :: st)) : Cm K nL cs e σ pc lv (.int x :: st) := fun out he H locs ls hP hS hl => lv_i2c hO.x hO.b d hv (k out he H locs ls hP hS hl)
theorem r_sval {i : Nat} (hO : Ok K cc RJ0 nL rm) (hi : Nat.blt i 13 = true) (d : decode cc pc = .ok (.getfield 9, 3)) (k : Cm K nL cs e σ (pc + 3) lv (.ref (K.G.aV i) :: st)) : Cm K nL cs e σ pc lv (.ref (K.G.aK i) :: st) := fun out he H locs ls hP hS hl => vk_getf hO.x hO.b (hO.tx.1 i (Nat.le_of_ble_eq_true hi)).2.2.1 hS hO.own (hO.ts _ a_1106) (fun _ h => h) d (k out he H locs ls hP hS hl)
theorem r_scod {i : Nat} (hO : Ok K cc RJ0 nL rm) (hi : Nat.blt i 13 = true) (d : decode cc pc = .ok (.getfield 15, 3)) (k : Cm K nL cs e σ (pc + 3) lv (.int 0 :: st)) : Cm K nL cs e σ pc lv (.ref (K.G.aK i) :: st) := fun out he H locs ls hP hS hl => vk_getf hO.x hO.b (hO.tx.1 i (Nat.le_of_ble_eq_true hi)).2.1 hS hO.own (hO.ts _ a_1107) (fun _ h => h) d (k out he H locs ls hP hS hl)
theorem r_scom (hO : Ok K cc RJ0 nL rm) (d : decode cc pc = .ok (.getstatic 38, 3)) (k : Cm K nL cs e σ (pc + 3) lv (.int 1 :: st)) : Cm K nL cs e σ pc lv st := fun out he H locs ls hP hS hl => va_gets hO.x hO.b hO.tx.2.2.1 hS hO.own (hO.ts _ a_1108) (fun _ h => h) d (k out he H locs ls hP hS hl)
theorem r_sfmt (hO : Ok K cc RJ0 nL rm) (d : decode cc pc = .ok (.getstatic 1053, 3)) (k : ∀ v : Value, v.category = 1 → Cm K nL cs e σ (pc + 3) lv (v :: st)) : Cm K nL cs e σ pc lv st := fun out he H locs ls hP hS hl => by
  rcases hO.tx.2.2.2.2 with h | ⟨t, h⟩
  · exact va_gets hO.x hO.b h hS hO.own (hO.ts _ a_1109) (fun _ h => h) d (k _ rfl out he H locs ls hP hS hl)
  · exact va_gets hO.x hO.b h hS hO.own (hO.ts _ a_1109) (fun _ h => h) d (k _ rfl out he H locs ls hP hS hl)
theorem r_slen {i : Nat} (hO : Ok K cc own nL rm) (hi : Nat.blt i 13 = true) (d : decode cc pc = .ok (.arraylength, 1)) (k : Cm K nL cs e σ (pc + 1) lv (.int (nI (txL.getD i 0)) :: st)) : Cm K nL cs e σ pc lv (.ref (K.G.aV i) :: st) := fun out he H locs ls hP hS hl => va_tlen hO.x hO.b (hO.tx.1 i (Nat.le_of_ble_eq_true hi)).2.2.2 hS rfl d (k out he H locs ls hP hS hl)
theorem r_sbyt {i : Nat} {j : Int32} (hO : Ok K cc own nL rm) (hi : Nat.blt i 13 = true) (hj : inb j (txL.getD i 0) = true) (d : decode cc pc = .ok (.baload, 1)) (k : Cm K nL cs e σ (pc + 1) lv (.int (tch i j) :: st)) : Cm K nL cs e σ pc lv (.int j :: .ref (K.G.aV i) :: st) := fun out he H locs ls hP hS hl => va_tb hO.x hO.b (hO.tx.1 i (Nat.le_of_ble_eq_true hi)).2.2.2 hS (inb_in hj) rfl d (k out he H locs ls hP hS hl)
end STR
abbrev rm_J0_length_8abf5 : Room := { frames := 1, cells := 0, slots := 0, locals := 20 }
abbrev rm_J0_charAt_5068e : Room := { frames := 4, cells := 0, slots := 0, locals := 85 }
abbrev rm_J0_coder_7d493 : Room := { frames := 0, cells := 0, slots := 0, locals := 0 }
abbrev rm_J0_isLatin1_aae02 : Room := { frames := 0, cells := 0, slots := 0, locals := 0 }
abbrev rm_J0_checkIndex_df160 : Room := { frames := 1, cells := 0, slots := 0, locals := 22 }
abbrev rm_J1_charAt_3b067 : Room := { frames := 2, cells := 0, slots := 0, locals := 43 }
abbrev rm_J3_checkIndex_8e157 : Room := { frames := 0, cells := 0, slots := 0, locals := 0 }
def f_J3_checkIndex_8e157 (i n : Int32) (σ : Wd) : Option (Int32 × Wd) := if i < 0 then none else if i < n then some (i, σ) else none
theorem b_J3_checkIndex_8e157 {K : Kt} (hO : Ok K cJ3_checkIndex_8e157 RJ3 3 rm_J3_checkIndex_8e157) (hR : Rt K (some .int)) (i n : Int32) (v : Value) (σ : Wd) : Cm K 3 (0, 0) (f_J3_checkIndex_8e157 i n σ) σ 0 [(0, .int i), (1, .int n), (2, v)] [] := by
  refine r_iload_n (i := 0) hO rfl rfl dJ3_checkIndex_8e157_0 ?_
  refine r_if_lt (tgt := 9) hO dJ3_checkIndex_8e157_1 (by decide) ?_ ?_
  · exact r_none
  · refine r_iload_n (i := 0) hO rfl rfl dJ3_checkIndex_8e157_4 ?_
    refine r_iload_n (i := 1) hO rfl rfl dJ3_checkIndex_8e157_5 ?_
    refine r_icmp_lt (tgt := 16) hO dJ3_checkIndex_8e157_6 (by decide) ?_ ?_
    · refine r_iload_n (i := 0) hO rfl rfl dJ3_checkIndex_8e157_16 ?_
      exact r_iret hO hR dJ3_checkIndex_8e157_17
    · exact r_none
theorem c_J3_checkIndex_8e157 {l : Launch} {G : Gh} {v : Value} (hv : v.category = 1) (i n : Int32) (σ : Wd) : Con l G yJ3_checkIndex_8e157 cJ3_checkIndex_8e157 3 (some .int) 0 0 [.int i, .int n, v] σ (f_J3_checkIndex_8e157 i n σ) := by
  refine Con.of (by decide +kernel) rfl ?_ (fun K hl hG hO hR => ?_)
  · cases v <;> first | exact Nat.le_of_ble_eq_true rfl | cases hv
  · subst hl; subst hG
    have h := b_J3_checkIndex_8e157 hO hR i n v σ
    exact h
theorem cal_J3_checkIndex_8e157 : CalS yJ3_checkIndex_8e157 cJ3_checkIndex_8e157 3 (some .int) 3 := ⟨a_1133, a_1134, a_1135, by decide, by decide, by decide +kernel⟩
def f_J0_checkIndex_df160 (i n : Int32) (σ : Wd) : Option (Int32 × Wd) := bd (f_J3_checkIndex_8e157 i n σ) fun _ σ => some (0, σ)
theorem b_J0_checkIndex_df160 {K : Kt} (hO : Ok K cJ0_checkIndex_df160 RJ0 2 rm_J0_checkIndex_df160) (hR : Rt K none) (i n : Int32) (σ : Wd) : Cm K 2 (0, 0) (f_J0_checkIndex_df160 i n σ) σ 0 [(0, .int i), (1, .int n)] [] := by
  refine r_iload_n (i := 0) hO rfl rfl dJ0_checkIndex_df160_0 ?_
  refine r_iload_n (i := 1) hO rfl rfl dJ0_checkIndex_df160_1 ?_
  refine r_sfmt hO dJ0_checkIndex_df160_2 (fun v hv => ?_)
  refine r_cSi (As := [.int i, .int n, v]) hO (c_J3_checkIndex_8e157 hv i n σ) cal_J3_checkIndex_8e157 a_1114 rfl rfl rfl ⟨rfl, rfl, Nat.le_refl _, Nat.le_refl _⟩ dJ0_checkIndex_df160_5 ?_
  intro r σ1
  refine r_pop hO rfl dJ0_checkIndex_df160_8 ?_
  exact r_vret hO hR dJ0_checkIndex_df160_9
theorem c_J0_checkIndex_df160 {l : Launch} {G : Gh} (i n : Int32) (σ : Wd) : Con l G yJ0_checkIndex_df160 cJ0_checkIndex_df160 2 none 1 22 [.int i, .int n] σ (f_J0_checkIndex_df160 i n σ) := Con.of (by decide +kernel) rfl (Nat.le_of_ble_eq_true rfl) (fun K hl hG hO hR => by subst hl; subst hG; exact b_J0_checkIndex_df160 hO hR i n σ)
theorem cal_J0_checkIndex_df160 : CalS yJ0_checkIndex_df160 cJ0_checkIndex_df160 2 none 2 := ⟨a_1128, a_1129, a_1118, by decide, by decide, by decide +kernel⟩
theorem check_ok {i : Int32} {n : Nat} {σ : Wd} {g : Int32 → Wd → Option (Int32 × Wd)} (hn : n < 2 ^ 31) (h : inb i n = true) : bd (f_J0_checkIndex_df160 i (nI n) σ) g = g 0 σ := by
  obtain ⟨h1, h2⟩ := inb_lt hn h
  unfold f_J0_checkIndex_df160 f_J3_checkIndex_8e157
  rw [if_neg h1, if_pos h2]
  rfl
theorem b_J1_charAt_3b067 {K : Kt} (hO : Ok K cJ1_charAt_3b067 RJ1 2 rm_J1_charAt_3b067) (hR : Rt K (some .char)) {w : Nat} (hw : Nat.blt w 13 = true) (i : Int32) (σ : Wd) : Cm K 2 (0, 0) (gd (inb i (txL.getD w 0)) (some (tch w i, σ))) σ 0 [(0, .ref (K.G.aV w)), (1, .int i)] [] := by
  refine r_gd fun hj => ?_
  rw [← check_ok (σ := σ) (g := fun _ σ => some (tch w i, σ)) (txL_lt w) hj]
  refine r_iload_n (i := 1) hO rfl rfl dJ1_charAt_3b067_0 ?_
  refine r_aload_n (i := 0) hO rfl rfl dJ1_charAt_3b067_1 ?_
  refine r_slen hO hw dJ1_charAt_3b067_2 ?_
  refine r_cSv (As := [.int i, .int (nI (txL.getD w 0))]) hO (c_J0_checkIndex_df160 i _ σ) cal_J0_checkIndex_df160 a_1113 rfl rfl rfl ⟨rfl, rfl, Nat.le_refl _, Nat.le_refl _⟩ dJ1_charAt_3b067_3 ?_
  intro r σ1
  refine r_aload_n (i := 0) hO rfl rfl dJ1_charAt_3b067_6 ?_
  refine r_iload_n (i := 1) hO rfl rfl dJ1_charAt_3b067_7 ?_
  refine r_sbyt hO hw hj dJ1_charAt_3b067_8 ?_
  refine r_sipush (v := 255) hO (by decide) dJ1_charAt_3b067_9 ?_
  refine r_iand hO dJ1_charAt_3b067_12 ?_
  rw [tch_and]
  refine r_i2c hO (tch_c w i) dJ1_charAt_3b067_13 ?_
  exact r_nret hO hR (tch_n w i) dJ1_charAt_3b067_14
theorem c_J1_charAt_3b067 {l : Launch} {G : Gh} {w : Nat} (hw : Nat.blt w 13 = true) (i : Int32) (σ : Wd) : Con l G yJ1_charAt_3b067 cJ1_charAt_3b067 2 (some .char) 2 43 [.ref (G.aV w), .int i] σ (gd (inb i (txL.getD w 0)) (some (tch w i, σ))) := Con.of (by decide +kernel) rfl (Nat.le_of_ble_eq_true rfl) (fun K hl hG hO hR => by subst hl; subst hG; exact b_J1_charAt_3b067 hO hR hw i σ)
theorem cal_J1_charAt_3b067 : CalS yJ1_charAt_3b067 cJ1_charAt_3b067 2 (some .char) 2 := ⟨a_1130, a_1131, a_1132, by decide, by decide, by decide +kernel⟩
theorem b_J0_coder_7d493 {K : Kt} (hO : Ok K cJ0_coder_7d493 RJ0 1 rm_J0_coder_7d493) (hR : Rt K (some .byte)) {w : Nat} (hw : Nat.blt w 13 = true) (σ : Wd) : Cm K 1 (0, 0) (some (0, σ)) σ 0 [(0, .ref (K.G.aK w))] [] := by
  refine r_scom hO dJ0_coder_7d493_0 ?_
  rw [show (some ((0 : Int32), σ)) = (if (1 : Int32) = 0 then none else some (0, σ)) from rfl]
  refine r_if_eq (tgt := 13) hO dJ0_coder_7d493_3 (by decide) r_none ?_
  refine r_aload_n (i := 0) hO rfl rfl dJ0_coder_7d493_6 ?_
  refine r_scod hO hw dJ0_coder_7d493_7 ?_
  refine r_goto (tgt := 14) hO dJ0_coder_7d493_10 (by decide) ?_
  exact r_nret hO hR rfl dJ0_coder_7d493_14
theorem c_J0_coder_7d493 {l : Launch} {G : Gh} {w : Nat} (hw : Nat.blt w 13 = true) (σ : Wd) : Con l G yJ0_coder_7d493 cJ0_coder_7d493 1 (some .byte) 0 0 [.ref (G.aK w)] σ (some (0, σ)) := Con.of (by decide +kernel) rfl (Nat.le_of_ble_eq_true rfl) (fun K hl hG hO hR => by subst hl; subst hG; exact b_J0_coder_7d493 hO hR hw σ)
theorem cal_J0_coder_7d493 : CalV yJ0_coder_7d493 cJ0_coder_7d493 1 (some .byte) 0 := ⟨a_1122, a_1123, a_1124, a_1118, by decide, by decide, by decide +kernel⟩
theorem b_J0_isLatin1_aae02 {K : Kt} (hO : Ok K cJ0_isLatin1_aae02 RJ0 1 rm_J0_isLatin1_aae02) (hR : Rt K (some .boolean)) {w : Nat} (hw : Nat.blt w 13 = true) (σ : Wd) : Cm K 1 (0, 0) (some (1, σ)) σ 0 [(0, .ref (K.G.aK w))] [] := by
  refine r_scom hO dJ0_isLatin1_aae02_0 ?_
  rw [show (some ((1 : Int32), σ)) = (if (1 : Int32) = 0 then none else if (0 : Int32) = 0 then some (1, σ) else none) from rfl]
  refine r_if_eq (tgt := 17) hO dJ0_isLatin1_aae02_3 (by decide) r_none ?_
  refine r_aload_n (i := 0) hO rfl rfl dJ0_isLatin1_aae02_6 ?_
  refine r_scod hO hw dJ0_isLatin1_aae02_7 ?_
  refine r_if_ne (tgt := 17) hO dJ0_isLatin1_aae02_10 (by decide) ?_ r_none
  refine r_iconst hO (v := 1) (by decide) dJ0_isLatin1_aae02_13 ?_
  refine r_goto (tgt := 18) hO dJ0_isLatin1_aae02_14 (by decide) ?_
  exact r_nret hO hR rfl dJ0_isLatin1_aae02_18
theorem c_J0_isLatin1_aae02 {l : Launch} {G : Gh} {w : Nat} (hw : Nat.blt w 13 = true) (σ : Wd) : Con l G yJ0_isLatin1_aae02 cJ0_isLatin1_aae02 1 (some .boolean) 0 0 [.ref (G.aK w)] σ (some (1, σ)) := Con.of (by decide +kernel) rfl (Nat.le_of_ble_eq_true rfl) (fun K hl hG hO hR => by subst hl; subst hG; exact b_J0_isLatin1_aae02 hO hR hw σ)
theorem cal_J0_isLatin1_aae02 : CalV yJ0_isLatin1_aae02 cJ0_isLatin1_aae02 1 (some .boolean) 0 := ⟨a_1125, a_1126, a_1127, a_1118, by decide, by decide, by decide +kernel⟩
theorem len_shr (i : Nat) (hi : Nat.blt i 13 = true) : nI (txL.getD i 0) >>> ((0 : Int32) &&& 31) = nI (txL.getD i 0) := by
  have h : ∀ j, j < 13 → nI (txL.getD j 0) >>> ((0 : Int32) &&& 31) = nI (txL.getD j 0) := by decide +kernel
  exact h i (Nat.le_of_ble_eq_true hi)
theorem b_J0_length_8abf5 {K : Kt} (hO : Ok K cJ0_length_8abf5 RJ0 1 rm_J0_length_8abf5) (hR : Rt K (some .int)) {w : Nat} (hw : Nat.blt w 13 = true) (σ : Wd) : Cm K 1 (0, 0) (some (nI (txL.getD w 0), σ)) σ 0 [(0, .ref (K.G.aK w))] [] := by
  refine r_aload_n (i := 0) hO rfl rfl dJ0_length_8abf5_0 ?_
  refine r_sval hO hw dJ0_length_8abf5_1 ?_
  refine r_slen hO hw dJ0_length_8abf5_4 ?_
  refine r_aload_n (i := 0) hO rfl rfl dJ0_length_8abf5_5 ?_
  rw [show (some (nI (txL.getD w 0), σ)) = bd (some (0, σ)) (fun z σ1 => gd (decide (z = 0)) (some (nI (txL.getD w 0), σ1))) from rfl]
  refine r_cTi (As := []) hO (c_J0_coder_7d493 hw σ) cal_J0_coder_7d493 a_1110 rfl hw rfl rfl rfl ⟨rfl, rfl, Nat.le_refl _, Nat.le_refl _⟩ dJ0_length_8abf5_6 ?_
  intro r σ1
  refine r_gd fun hr => ?_
  rw [of_decide_eq_true hr]
  refine r_ishr hO dJ0_length_8abf5_9 ?_
  rw [len_shr w hw]
  exact r_iret hO hR dJ0_length_8abf5_10
theorem c_J0_length_8abf5 {l : Launch} {G : Gh} {w : Nat} (hw : Nat.blt w 13 = true) (σ : Wd) : Con l G yJ0_length_8abf5 cJ0_length_8abf5 1 (some .int) 1 20 [.ref (G.aK w)] σ (some (nI (txL.getD w 0), σ)) := Con.of (by decide +kernel) rfl (Nat.le_of_ble_eq_true rfl) (fun K hl hG hO hR => by subst hl; subst hG; exact b_J0_length_8abf5 hO hR hw σ)
theorem cal_J0_length_8abf5 : CalV yJ0_length_8abf5 cJ0_length_8abf5 1 (some .int) 0 := ⟨a_1115, a_1116, a_1117, a_1118, by decide, by decide, by decide +kernel⟩
theorem b_J0_charAt_5068e {K : Kt} (hO : Ok K cJ0_charAt_5068e RJ0 2 rm_J0_charAt_5068e) (hR : Rt K (some .char)) {w : Nat} (hw : Nat.blt w 13 = true) (i : Int32) (σ : Wd) : Cm K 2 (0, 0) (gd (inb i (txL.getD w 0)) (some (tch w i, σ))) σ 0 [(0, .ref (K.G.aK w)), (1, .int i)] [] := by
  refine r_aload_n (i := 0) hO rfl rfl dJ0_charAt_5068e_0 ?_
  rw [show (gd (inb i (txL.getD w 0)) (some (tch w i, σ))) = bd (some (1, σ)) (fun z σ1 => if z = 0 then none else bd (gd (inb i (txL.getD w 0)) (some (tch w i, σ1))) (fun r σ2 => gd (decide (r = tch w i)) (some (tch w i, σ2)))) from by cases inb i (txL.getD w 0) <;> simp [bd, gd]]
  refine r_cTi (As := []) hO (c_J0_isLatin1_aae02 hw σ) cal_J0_isLatin1_aae02 a_1111 rfl hw rfl rfl rfl ⟨rfl, rfl, Nat.le_refl _, Nat.le_refl _⟩ dJ0_charAt_5068e_1 ?_
  intro r σ1
  refine r_if_eq (tgt := 16) hO dJ0_charAt_5068e_4 (by decide) r_none ?_
  refine r_aload_n (i := 0) hO rfl rfl dJ0_charAt_5068e_7 ?_
  refine r_sval hO hw dJ0_charAt_5068e_8 ?_
  refine r_iload_n (i := 1) hO rfl rfl dJ0_charAt_5068e_11 ?_
  refine r_cSi (As := [.ref (K.G.aV w), .int i]) hO (c_J1_charAt_3b067 hw i σ1) cal_J1_charAt_3b067 a_1112 rfl rfl rfl ⟨rfl, rfl, Nat.le_refl _, Nat.le_refl _⟩ dJ0_charAt_5068e_12 ?_
  intro r2 σ2
  refine r_gd fun hr => ?_
  rw [of_decide_eq_true hr]
  exact r_nret hO hR (tch_n w i) dJ0_charAt_5068e_15
theorem c_J0_charAt_5068e {l : Launch} {G : Gh} {w : Nat} (hw : Nat.blt w 13 = true) (i : Int32) (σ : Wd) : Con l G yJ0_charAt_5068e cJ0_charAt_5068e 2 (some .char) 4 85 [.ref (G.aK w), .int i] σ (gd (inb i (txL.getD w 0)) (some (tch w i, σ))) := Con.of (by decide +kernel) rfl (Nat.le_of_ble_eq_true rfl) (fun K hl hG hO hR => by subst hl; subst hG; exact b_J0_charAt_5068e hO hR hw i σ)
theorem cal_J0_charAt_5068e : CalV yJ0_charAt_5068e cJ0_charAt_5068e 2 (some .char) 1 := ⟨a_1119, a_1120, a_1121, a_1118, by decide, by decide, by decide +kernel⟩
theorem k_str_length {K : Kt} {nL : Nat} {cs : Nat × Nat} {σ : Wd} {pc : Nat} {lv : List (Nat × Value)} {st : List Value} {cc : ByteArray} {own : String} {rm : Room} {index : Nat} {e : Option (Int32 × Wd)} {w : Nat} (hO : Ok K cc own nL rm) (hw : Nat.blt w 13 = true) (hl : Cond.methodLink own index yJ0_length_8abf5 ∈ gtb) (hcat : Nat.ble ((st.map fun v => v.category).sum) 8 = true) (hR : RoomOk rm cs 1 20 1) (d : decode cc pc = .ok (.invokevirtual index, 3)) (kk : Cm K nL cs e σ (pc + 3) lv (.int (nI (txL.getD w 0)) :: st)) : Cm K nL cs e σ pc lv (.ref (K.G.aK w) :: st) := r_cTp (As := []) hO (c_J0_length_8abf5 hw σ) cal_J0_length_8abf5 hl rfl hw rfl rfl hcat hR d rfl kk
theorem k_str_charAt {K : Kt} {nL : Nat} {cs : Nat × Nat} {σ : Wd} {pc : Nat} {lv : List (Nat × Value)} {st : List Value} {cc : ByteArray} {own : String} {rm : Room} {index : Nat} {e : Option (Int32 × Wd)} {w : Nat} {x : Int32} (hO : Ok K cc own nL rm) (hw : Nat.blt w 13 = true) (hl : Cond.methodLink own index yJ0_charAt_5068e ∈ gtb) (hcat : Nat.ble ((st.map fun v => v.category).sum) 8 = true) (hR : RoomOk rm cs 4 85 2) (d : decode cc pc = .ok (.invokevirtual index, 3)) (kk : Cm K nL cs e σ (pc + 3) lv (.int (tch w x) :: st)) : Cm K nL cs (gd (inb x (txL.getD w 0)) e) σ pc lv (.int x :: .ref (K.G.aK w) :: st) := r_gd fun h => r_cTp (As := [.int x]) hO (c_J0_charAt_5068e hw x σ) cal_J0_charAt_5068e hl rfl hw rfl rfl hcat hR d (by rw [h]; rfl) kk

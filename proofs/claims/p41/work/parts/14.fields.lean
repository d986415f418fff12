def FU : Nat := 6000
theorem isM_lt {k : Nat} (h : isM k) : k < 121 := by rcases h with rfl | rfl | rfl | rfl <;> decide
theorem isR_lt {k : Nat} (h : isR k) : k < 121 := by rcases h with rfl | rfl | rfl <;> decide
theorem isL_lt {k : Nat} (h : isL k) : k < 121 := by rcases h with rfl | rfl | rfl <;> decide
theorem iM37 : isM 37 := Or.inr (Or.inr (Or.inl rfl))
theorem iM50 : isM 50 := Or.inr (Or.inr (Or.inr rfl))
theorem iR63 : isR 63 := Or.inl rfl
theorem iR76 : isR 76 := Or.inr (Or.inl rfl)
theorem iR89 : isR 89 := Or.inr (Or.inr rfl)
theorem s_2 : sh 2 1 900 := rfl
theorem s_3 : sh 3 0 5 := rfl
theorem s_5 : sh 5 0 5 := rfl
theorem s_6 : sh 6 0 5 := rfl
theorem s_7 : sh 7 0 605 := rfl
theorem s_8 : sh 8 0 726 := rfl
theorem s_9 : sh 9 0 121 := rfl
theorem s_103 : sh 103 0 25 := rfl
theorem s_104 : sh 104 0 30 := rfl
theorem s_105 : sh 105 0 40 := rfl
theorem s_106 : sh 106 0 25 := rfl
theorem s_107 : sh 107 0 30 := rfl
theorem s_108 : sh 108 0 40 := rfl
theorem s_109 : sh 109 0 30 := rfl
theorem s_110 : sh 110 0 5 := rfl
theorem s_111 : sh 111 2 5 := rfl
theorem s_112 : sh 112 0 179 := rfl
theorem s_113 : sh 113 0 179 := rfl
theorem s_114 : sh 114 0 179 := rfl
theorem s_115 : sh 115 1 900 := rfl
theorem s_116 : sh 116 0 726 := rfl
theorem s_117 : sh 117 0 5 := rfl
theorem s_118 : sh 118 0 5 := rfl
theorem s_119 : sh 119 3 121 := rfl
theorem s_120 : sh 120 2 1 := rfl
theorem sM_1 {k : Nat} (h : isM k) : sh (k + 1) 0 5 := by rcases h with rfl | rfl | rfl | rfl <;> rfl
theorem sM_2 {k : Nat} (h : isM k) : sh (k + 2) 0 5 := by rcases h with rfl | rfl | rfl | rfl <;> rfl
theorem sM_3 {k : Nat} (h : isM k) : sh (k + 3) 0 5 := by rcases h with rfl | rfl | rfl | rfl <;> rfl
theorem sM_4 {k : Nat} (h : isM k) : sh (k + 4) 0 5 := by rcases h with rfl | rfl | rfl | rfl <;> rfl
theorem sM_5 {k : Nat} (h : isM k) : sh (k + 5) 0 5 := by rcases h with rfl | rfl | rfl | rfl <;> rfl
theorem sM_6 {k : Nat} (h : isM k) : sh (k + 6) 0 5 := by rcases h with rfl | rfl | rfl | rfl <;> rfl
theorem sM_7 {k : Nat} (h : isM k) : sh (k + 7) 0 5 := by rcases h with rfl | rfl | rfl | rfl <;> rfl
theorem sM_8 {k : Nat} (h : isM k) : sh (k + 8) 0 30 := by rcases h with rfl | rfl | rfl | rfl <;> rfl
theorem sM_9 {k : Nat} (h : isM k) : sh (k + 9) 0 30 := by rcases h with rfl | rfl | rfl | rfl <;> rfl
theorem sM_10 {k : Nat} (h : isM k) : sh (k + 10) 0 10 := by rcases h with rfl | rfl | rfl | rfl <;> rfl
theorem sM_11 {k : Nat} (h : isM k) : sh (k + 11) 0 10 := by rcases h with rfl | rfl | rfl | rfl <;> rfl
theorem sM_12 {k : Nat} (h : isM k) : sh (k + 12) 0 10 := by rcases h with rfl | rfl | rfl | rfl <;> rfl
theorem sR_1 {k : Nat} (h : isR k) : sh (k + 1) 0 5 := by rcases h with rfl | rfl | rfl <;> rfl
theorem sR_2 {k : Nat} (h : isR k) : sh (k + 2) 0 5 := by rcases h with rfl | rfl | rfl <;> rfl
theorem sR_3 {k : Nat} (h : isR k) : sh (k + 3) 0 5 := by rcases h with rfl | rfl | rfl <;> rfl
theorem sR_4 {k : Nat} (h : isR k) : sh (k + 4) 0 5 := by rcases h with rfl | rfl | rfl <;> rfl
theorem sR_5 {k : Nat} (h : isR k) : sh (k + 5) 0 5 := by rcases h with rfl | rfl | rfl <;> rfl
theorem sR_6 {k : Nat} (h : isR k) : sh (k + 6) 0 5 := by rcases h with rfl | rfl | rfl <;> rfl
theorem sR_7 {k : Nat} (h : isR k) : sh (k + 7) 0 5 := by rcases h with rfl | rfl | rfl <;> rfl
theorem sR_8 {k : Nat} (h : isR k) : sh (k + 8) 0 5 := by rcases h with rfl | rfl | rfl <;> rfl
theorem sL_1 {k : Nat} (h : isL k) : sh (k + 1) 0 30 := by rcases h with rfl | rfl | rfl <;> rfl
theorem sL_2 {k : Nat} (h : isL k) : sh (k + 2) 0 30 := by rcases h with rfl | rfl | rfl <;> rfl
theorem sL_3 {k : Nat} (h : isL k) : sh (k + 3) 0 30 := by rcases h with rfl | rfl | rfl <;> rfl
theorem eK_X0 {G : Gh} {ri : Nat → Int32} {rl : Nat → Int64} {rr : Nat → Nat} : entK G 10 ri rl rr = oX0 ri := rfl
theorem ent_X0 {G : Gh} {σ : Wd} : entW G σ 10 = oX0 (σ.1 10) := eK_X0
theorem eK_X1 {G : Gh} {ri : Nat → Int32} {rl : Nat → Int64} {rr : Nat → Nat} : entK G 4 ri rl rr = oX1 G.A 4 ri := rfl
theorem ent_X1 {G : Gh} {σ : Wd} : entW G σ 4 = oX1 G.A 4 (σ.1 4) := eK_X1
theorem eK_X5 {G : Gh} {ri : Nat → Int32} {rl : Nat → Int64} {rr : Nat → Nat} : entK G 1 ri rl rr = oX5 G.A 1 ri := rfl
theorem ent_X5 {G : Gh} {σ : Wd} : entW G σ 1 = oX5 G.A 1 (σ.1 1) := eK_X5
theorem eK_X6 {G : Gh} {ri : Nat → Int32} {rl : Nat → Int64} {rr : Nat → Nat} : entK G 0 ri rl rr = oX6 G.A ri rr := rfl
theorem ent_X6 {G : Gh} {σ : Wd} : entW G σ 0 = oX6 G.A (σ.1 0) (σ.2.2 0) := eK_X6
theorem eK_X7 {G : Gh} {ri : Nat → Int32} {rl : Nat → Int64} {rr : Nat → Nat} : entK G 102 ri rl rr = oX7 G.A ri rl := rfl
theorem ent_X7 {G : Gh} {σ : Wd} : entW G σ 102 = oX7 G.A (σ.1 102) (σ.2.1 102) := eK_X7
theorem eK_X2 {G : Gh} {k : Nat} {ri : Nat → Int32} {rl : Nat → Int64} {rr : Nat → Nat} (h : isL k) : entK G k ri rl rr = oX2 G.A k ri := by rcases h with rfl | rfl | rfl <;> rfl
theorem ent_X2 {G : Gh} {σ : Wd} {k : Nat} (h : isL k) : entW G σ k = oX2 G.A k (σ.1 k) := eK_X2 h
theorem eK_X3 {G : Gh} {k : Nat} {ri : Nat → Int32} {rl : Nat → Int64} {rr : Nat → Nat} (h : isM k) : entK G k ri rl rr = oX3 G.A k ri := by rcases h with rfl | rfl | rfl | rfl <;> rfl
theorem ent_X3 {G : Gh} {σ : Wd} {k : Nat} (h : isM k) : entW G σ k = oX3 G.A k (σ.1 k) := eK_X3 h
theorem eK_X4 {G : Gh} {k : Nat} {ri : Nat → Int32} {rl : Nat → Int64} {rr : Nat → Nat} (h : isR k) : entK G k ri rl rr = oX4 G.A k ri := by rcases h with rfl | rfl | rfl <;> rfl
theorem ent_X4 {G : Gh} {σ : Wd} {k : Nat} (h : isR k) : entW G σ k = oX4 G.A k (σ.1 k) := eK_X4 h
theorem ne_i {x v : Int32} {n : Int} (h : ¬ x = v) (hv : v.toInt = n) : ¬ x.toInt = n := lv_neT h hv
theorem fit_b {x : Int32} (hb : isb x = true) : fits .boolean (.int x) = true := by
  unfold isb at hb
  rw [Bool.or_eq_true] at hb
  rcases hb with hb | hb
  · rw [of_decide_eq_true hb]; rfl
  · rw [of_decide_eq_true hb]; rfl
section FIELDS
variable {K : Kt} {nL : Nat} {cs : Nat × Nat} {e : Option (Int32 × Wd)} {σ : Wd} {pc : Nat} {lv : List (Nat × Value)} {st : List Value} {cc : ByteArray} {rm : Room} {own : String}
theorem r_lcmp {x y : Int64} (hO : Ok K cc own nL rm) (d : decode cc pc = .ok (.lcmp, 1)) (k : Cm K nL cs e σ (pc + 1) lv (.int (lg_cmp x y) :: st)) : Cm K nL cs e σ pc lv (.long y :: .long x :: st) := fun out he H locs ls hP hS hl => W.lcmp hO.x hO.b d (k out he H locs ls hP hS hl)
theorem r_tsI {dflt lo hi : Int} {offs : Array Int} {len : Nat} {x v : Int32} {off : Int} {tgt : Nat} (hO : Ok K cc own nL rm) (d : decode cc pc = .ok (.tableswitch dflt lo hi offs, len)) (hx : x = v) (h1 : ¬ v.toInt < lo) (h2 : ¬ hi < v.toInt) (ho : offs[(v.toInt - lo).toNat]? = some off) (ht : (pc : Int) + off = (tgt : Int)) (k : Cm K nL cs e σ tgt lv st) : Cm K nL cs e σ pc lv (.int x :: st) := by
  subst hx
  exact fun out he H locs ls hP hS hl => lv_tableIn hO.x hO.b d h1 h2 ho ht (k out he H locs ls hP hS hl)
theorem r_tsO {dflt lo hi : Int} {offs : Array Int} {len : Nat} {x : Int32} {tgt : Nat} (hO : Ok K cc own nL rm) (d : decode cc pc = .ok (.tableswitch dflt lo hi offs, len)) (h : x.toInt < lo ∨ hi < x.toInt) (ht : (pc : Int) + dflt = (tgt : Int)) (k : Cm K nL cs e σ tgt lv st) : Cm K nL cs e σ pc lv (.int x :: st) :=
  fun out he H locs ls hP hS hl => lv_tableOut hO.x hO.b d h ht (k out he H locs ls hP hS hl)
theorem r_lsw {dflt : Int} {ps : Array (Int × Int)} {len : Nat} {x : Int32} {off : Int} {tgt : Nat} (hO : Ok K cc own nL rm) (d : decode cc pc = .ok (.lookupswitch dflt ps, len)) (hp : (ps.toList.zip (ps.toList.drop 1)).all (fun (a, next) => a.1 < next.1) = true) (ho : Op.lookupswitch.offset ps.toList dflt x.toInt = off) (ht : (pc : Int) + off = (tgt : Int)) (k : Cm K nL cs e σ tgt lv st) : Cm K nL cs e σ pc lv (.int x :: st) :=
  fun out he H locs ls hP hS hl => lv_lookup hO.x hO.b d hp ho ht (k out he H locs ls hP hS hl)
theorem gX0_9 (hO : Ok K cc RX0 nL rm) (d : decode cc pc = .ok (.getfield 9, 3)) (kk : Cm K nL cs e σ (pc + 3) lv (.int (σ.1 10 0) :: st)) : Cm K nL cs e σ pc lv (.ref (K.G.A 10) :: st) := r_get 0 hO inX0 rfl (by decide) ent_X0 (by decide) a_877 rfl d kk
theorem gX0_29 {k : Nat} (hO : Ok K cc RX0 nL rm) (hm : isM k) (d : decode cc pc = .ok (.getfield 29, 3)) (kk : Cm K nL cs e σ (pc + 3) lv (.int (σ.1 k 3) :: st)) : Cm K nL cs e σ pc lv (.ref (K.G.A k) :: st) := r_get 3 hO inX3 rfl (isM_lt hm) (ent_X3 hm) (by decide) a_875 rfl d kk
theorem gX0_34 {k : Nat} (hO : Ok K cc RX0 nL rm) (hm : isM k) (d : decode cc pc = .ok (.getfield 34, 3)) (kk : Cm K nL cs e σ (pc + 3) lv (.ref (K.G.A (k + 6)) :: st)) : Cm K nL cs e σ pc lv (.ref (K.G.A k) :: st) := r_get 10 hO inX3 rfl (isM_lt hm) (ent_X3 hm) (by decide) a_876 rfl d kk
theorem gX0_38 {k : Nat} (hO : Ok K cc RX0 nL rm) (hm : isM k) (d : decode cc pc = .ok (.getfield 38, 3)) (kk : Cm K nL cs e σ (pc + 3) lv (.ref (K.G.A (k + 8)) :: st)) : Cm K nL cs e σ pc lv (.ref (K.G.A k) :: st) := r_get 12 hO inX3 rfl (isM_lt hm) (ent_X3 hm) (by decide) a_872 rfl d kk
theorem gX0_53 {k : Nat} (hO : Ok K cc RX0 nL rm) (hm : isM k) (d : decode cc pc = .ok (.getfield 53, 3)) (kk : Cm K nL cs e σ (pc + 3) lv (.ref (K.G.A (k + 9)) :: st)) : Cm K nL cs e σ pc lv (.ref (K.G.A k) :: st) := r_get 13 hO inX3 rfl (isM_lt hm) (ent_X3 hm) (by decide) a_874 rfl d kk
theorem gX0_56 {k : Nat} (hO : Ok K cc RX0 nL rm) (hm : isM k) (d : decode cc pc = .ok (.getfield 56, 3)) (kk : Cm K nL cs e σ (pc + 3) lv (.int (σ.1 k 1) :: st)) : Cm K nL cs e σ pc lv (.ref (K.G.A k) :: st) := r_get 1 hO inX3 rfl (isM_lt hm) (ent_X3 hm) (by decide) a_873 rfl d kk
theorem gX1_9 (hO : Ok K cc RX1 nL rm) (d : decode cc pc = .ok (.getfield 9, 3)) (kk : Cm K nL cs e σ (pc + 3) lv (.int (σ.1 4 0) :: st)) : Cm K nL cs e σ pc lv (.ref (K.G.A 4) :: st) := r_get 0 hO inX1 rfl (by decide) ent_X1 (by decide) a_888 rfl d kk
theorem gX1_15 (hO : Ok K cc RX1 nL rm) (d : decode cc pc = .ok (.getfield 15, 3)) (kk : Cm K nL cs e σ (pc + 3) lv (.int (σ.1 4 1) :: st)) : Cm K nL cs e σ pc lv (.ref (K.G.A 4) :: st) := r_get 1 hO inX1 rfl (by decide) ent_X1 (by decide) a_890 rfl d kk
theorem gX1_18 (hO : Ok K cc RX1 nL rm) (d : decode cc pc = .ok (.getfield 18, 3)) (kk : Cm K nL cs e σ (pc + 3) lv (.ref (K.G.A 5) :: st)) : Cm K nL cs e σ pc lv (.ref (K.G.A 4) :: st) := r_get 2 hO inX1 rfl (by decide) ent_X1 (by decide) a_889 rfl d kk
theorem gX1_22 (hO : Ok K cc RX1 nL rm) (d : decode cc pc = .ok (.getfield 22, 3)) (kk : Cm K nL cs e σ (pc + 3) lv (.ref (K.G.A 6) :: st)) : Cm K nL cs e σ pc lv (.ref (K.G.A 4) :: st) := r_get 3 hO inX1 rfl (by decide) ent_X1 (by decide) a_885 rfl d kk
theorem gX1_25 (hO : Ok K cc RX1 nL rm) (d : decode cc pc = .ok (.getfield 25, 3)) (kk : Cm K nL cs e σ (pc + 3) lv (.ref (K.G.A 7) :: st)) : Cm K nL cs e σ pc lv (.ref (K.G.A 4) :: st) := r_get 4 hO inX1 rfl (by decide) ent_X1 (by decide) a_886 rfl d kk
theorem gX1_28 (hO : Ok K cc RX1 nL rm) (d : decode cc pc = .ok (.getfield 28, 3)) (kk : Cm K nL cs e σ (pc + 3) lv (.ref (K.G.A 8) :: st)) : Cm K nL cs e σ pc lv (.ref (K.G.A 4) :: st) := r_get 5 hO inX1 rfl (by decide) ent_X1 (by decide) a_887 rfl d kk
theorem gX1_31 (hO : Ok K cc RX1 nL rm) (d : decode cc pc = .ok (.getfield 31, 3)) (kk : Cm K nL cs e σ (pc + 3) lv (.ref (K.G.A 9) :: st)) : Cm K nL cs e σ pc lv (.ref (K.G.A 4) :: st) := r_get 6 hO inX1 rfl (by decide) ent_X1 (by decide) a_891 rfl d kk
theorem gX1_38 {k : Nat} (hO : Ok K cc RX1 nL rm) (hm : isM k) (d : decode cc pc = .ok (.getfield 38, 3)) (kk : Cm K nL cs e σ (pc + 3) lv (.int (σ.1 k 3) :: st)) : Cm K nL cs e σ pc lv (.ref (K.G.A k) :: st) := r_get 3 hO inX3 rfl (isM_lt hm) (ent_X3 hm) (by decide) a_884 rfl d kk
theorem gX2_9 {k : Nat} (hO : Ok K cc RX2 nL rm) (hm : isL k) (d : decode cc pc = .ok (.getfield 9, 3)) (kk : Cm K nL cs e σ (pc + 3) lv (.int (σ.1 k 0) :: st)) : Cm K nL cs e σ pc lv (.ref (K.G.A k) :: st) := r_get 0 hO inX2 rfl (isL_lt hm) (ent_X2 hm) (by decide) a_892 rfl d kk
theorem gX2_15 {k : Nat} (hO : Ok K cc RX2 nL rm) (hm : isL k) (d : decode cc pc = .ok (.getfield 15, 3)) (kk : Cm K nL cs e σ (pc + 3) lv (.ref (K.G.A (k + 1)) :: st)) : Cm K nL cs e σ pc lv (.ref (K.G.A k) :: st) := r_get 1 hO inX2 rfl (isL_lt hm) (ent_X2 hm) (by decide) a_893 rfl d kk
theorem gX2_19 {k : Nat} (hO : Ok K cc RX2 nL rm) (hm : isL k) (d : decode cc pc = .ok (.getfield 19, 3)) (kk : Cm K nL cs e σ (pc + 3) lv (.ref (K.G.A (k + 2)) :: st)) : Cm K nL cs e σ pc lv (.ref (K.G.A k) :: st) := r_get 2 hO inX2 rfl (isL_lt hm) (ent_X2 hm) (by decide) a_894 rfl d kk
theorem gX2_22 {k : Nat} (hO : Ok K cc RX2 nL rm) (hm : isL k) (d : decode cc pc = .ok (.getfield 22, 3)) (kk : Cm K nL cs e σ (pc + 3) lv (.ref (K.G.A (k + 3)) :: st)) : Cm K nL cs e σ pc lv (.ref (K.G.A k) :: st) := r_get 3 hO inX2 rfl (isL_lt hm) (ent_X2 hm) (by decide) a_895 rfl d kk
theorem gX3_9 {k : Nat} (hO : Ok K cc RX3 nL rm) (hm : isM k) (d : decode cc pc = .ok (.getfield 9, 3)) (kk : Cm K nL cs e σ (pc + 3) lv (.int (σ.1 k 0) :: st)) : Cm K nL cs e σ pc lv (.ref (K.G.A k) :: st) := r_get 0 hO inX3 rfl (isM_lt hm) (ent_X3 hm) (by decide) a_897 rfl d kk
theorem gX3_15 {k : Nat} (hO : Ok K cc RX3 nL rm) (hm : isM k) (d : decode cc pc = .ok (.getfield 15, 3)) (kk : Cm K nL cs e σ (pc + 3) lv (.int (σ.1 k 1) :: st)) : Cm K nL cs e σ pc lv (.ref (K.G.A k) :: st) := r_get 1 hO inX3 rfl (isM_lt hm) (ent_X3 hm) (by decide) a_882 rfl d kk
theorem gX3_18 {k : Nat} (hO : Ok K cc RX3 nL rm) (hm : isM k) (d : decode cc pc = .ok (.getfield 18, 3)) (kk : Cm K nL cs e σ (pc + 3) lv (.int (σ.1 k 2) :: st)) : Cm K nL cs e σ pc lv (.ref (K.G.A k) :: st) := r_get 2 hO inX3 rfl (isM_lt hm) (ent_X3 hm) (by decide) a_898 rfl d kk
theorem gX3_21 {k : Nat} (hO : Ok K cc RX3 nL rm) (hm : isM k) (d : decode cc pc = .ok (.getfield 21, 3)) (kk : Cm K nL cs e σ (pc + 3) lv (.int (σ.1 k 3) :: st)) : Cm K nL cs e σ pc lv (.ref (K.G.A k) :: st) := r_get 3 hO inX3 rfl (isM_lt hm) (ent_X3 hm) (by decide) a_899 rfl d kk
theorem gX3_24 {k : Nat} (hO : Ok K cc RX3 nL rm) (hm : isM k) (d : decode cc pc = .ok (.getfield 24, 3)) (kk : Cm K nL cs e σ (pc + 3) lv (.int (σ.1 k 4) :: st)) : Cm K nL cs e σ pc lv (.ref (K.G.A k) :: st) := r_get 4 hO inX3 rfl (isM_lt hm) (ent_X3 hm) (by decide) a_900 rfl d kk
theorem gX3_27 {k : Nat} (hO : Ok K cc RX3 nL rm) (hm : isM k) (d : decode cc pc = .ok (.getfield 27, 3)) (kk : Cm K nL cs e σ (pc + 3) lv (.ref (K.G.A (k + 1)) :: st)) : Cm K nL cs e σ pc lv (.ref (K.G.A k) :: st) := r_get 5 hO inX3 rfl (isM_lt hm) (ent_X3 hm) (by decide) a_870 rfl d kk
theorem gX3_31 {k : Nat} (hO : Ok K cc RX3 nL rm) (hm : isM k) (d : decode cc pc = .ok (.getfield 31, 3)) (kk : Cm K nL cs e σ (pc + 3) lv (.ref (K.G.A (k + 2)) :: st)) : Cm K nL cs e σ pc lv (.ref (K.G.A k) :: st) := r_get 6 hO inX3 rfl (isM_lt hm) (ent_X3 hm) (by decide) a_881 rfl d kk
theorem gX3_34 {k : Nat} (hO : Ok K cc RX3 nL rm) (hm : isM k) (d : decode cc pc = .ok (.getfield 34, 3)) (kk : Cm K nL cs e σ (pc + 3) lv (.ref (K.G.A (k + 3)) :: st)) : Cm K nL cs e σ pc lv (.ref (K.G.A k) :: st) := r_get 7 hO inX3 rfl (isM_lt hm) (ent_X3 hm) (by decide) a_871 rfl d kk
theorem gX3_37 {k : Nat} (hO : Ok K cc RX3 nL rm) (hm : isM k) (d : decode cc pc = .ok (.getfield 37, 3)) (kk : Cm K nL cs e σ (pc + 3) lv (.ref (K.G.A (k + 4)) :: st)) : Cm K nL cs e σ pc lv (.ref (K.G.A k) :: st) := r_get 8 hO inX3 rfl (isM_lt hm) (ent_X3 hm) (by decide) a_883 rfl d kk
theorem gX3_40 {k : Nat} (hO : Ok K cc RX3 nL rm) (hm : isM k) (d : decode cc pc = .ok (.getfield 40, 3)) (kk : Cm K nL cs e σ (pc + 3) lv (.ref (K.G.A (k + 5)) :: st)) : Cm K nL cs e σ pc lv (.ref (K.G.A k) :: st) := r_get 9 hO inX3 rfl (isM_lt hm) (ent_X3 hm) (by decide) a_901 rfl d kk
theorem gX3_43 {k : Nat} (hO : Ok K cc RX3 nL rm) (hm : isM k) (d : decode cc pc = .ok (.getfield 43, 3)) (kk : Cm K nL cs e σ (pc + 3) lv (.ref (K.G.A (k + 6)) :: st)) : Cm K nL cs e σ pc lv (.ref (K.G.A k) :: st) := r_get 10 hO inX3 rfl (isM_lt hm) (ent_X3 hm) (by decide) a_878 rfl d kk
theorem gX3_46 {k : Nat} (hO : Ok K cc RX3 nL rm) (hm : isM k) (d : decode cc pc = .ok (.getfield 46, 3)) (kk : Cm K nL cs e σ (pc + 3) lv (.ref (K.G.A (k + 7)) :: st)) : Cm K nL cs e σ pc lv (.ref (K.G.A k) :: st) := r_get 11 hO inX3 rfl (isM_lt hm) (ent_X3 hm) (by decide) a_896 rfl d kk
theorem gX3_49 {k : Nat} (hO : Ok K cc RX3 nL rm) (hm : isM k) (d : decode cc pc = .ok (.getfield 49, 3)) (kk : Cm K nL cs e σ (pc + 3) lv (.ref (K.G.A (k + 8)) :: st)) : Cm K nL cs e σ pc lv (.ref (K.G.A k) :: st) := r_get 12 hO inX3 rfl (isM_lt hm) (ent_X3 hm) (by decide) a_879 rfl d kk
theorem gX3_52 {k : Nat} (hO : Ok K cc RX3 nL rm) (hm : isM k) (d : decode cc pc = .ok (.getfield 52, 3)) (kk : Cm K nL cs e σ (pc + 3) lv (.ref (K.G.A (k + 9)) :: st)) : Cm K nL cs e σ pc lv (.ref (K.G.A k) :: st) := r_get 13 hO inX3 rfl (isM_lt hm) (ent_X3 hm) (by decide) a_880 rfl d kk
theorem gX3_55 {k : Nat} (hO : Ok K cc RX3 nL rm) (hm : isM k) (d : decode cc pc = .ok (.getfield 55, 3)) (kk : Cm K nL cs e σ (pc + 3) lv (.ref (K.G.A (k + 10)) :: st)) : Cm K nL cs e σ pc lv (.ref (K.G.A k) :: st) := r_get 14 hO inX3 rfl (isM_lt hm) (ent_X3 hm) (by decide) a_902 rfl d kk
theorem gX3_58 {k : Nat} (hO : Ok K cc RX3 nL rm) (hm : isM k) (d : decode cc pc = .ok (.getfield 58, 3)) (kk : Cm K nL cs e σ (pc + 3) lv (.ref (K.G.A (k + 11)) :: st)) : Cm K nL cs e σ pc lv (.ref (K.G.A k) :: st) := r_get 15 hO inX3 rfl (isM_lt hm) (ent_X3 hm) (by decide) a_903 rfl d kk
theorem gX3_61 {k : Nat} (hO : Ok K cc RX3 nL rm) (hm : isM k) (d : decode cc pc = .ok (.getfield 61, 3)) (kk : Cm K nL cs e σ (pc + 3) lv (.ref (K.G.A (k + 12)) :: st)) : Cm K nL cs e σ pc lv (.ref (K.G.A k) :: st) := r_get 16 hO inX3 rfl (isM_lt hm) (ent_X3 hm) (by decide) a_904 rfl d kk
theorem gX4_9 {k : Nat} (hO : Ok K cc RX4 nL rm) (hm : isR k) (d : decode cc pc = .ok (.getfield 9, 3)) (kk : Cm K nL cs e σ (pc + 3) lv (.int (σ.1 k 0) :: st)) : Cm K nL cs e σ pc lv (.ref (K.G.A k) :: st) := r_get 0 hO inX4 rfl (isR_lt hm) (ent_X4 hm) (by decide) a_914 rfl d kk
theorem gX4_15 {k : Nat} (hO : Ok K cc RX4 nL rm) (hm : isR k) (d : decode cc pc = .ok (.getfield 15, 3)) (kk : Cm K nL cs e σ (pc + 3) lv (.int (σ.1 k 1) :: st)) : Cm K nL cs e σ pc lv (.ref (K.G.A k) :: st) := r_get 1 hO inX4 rfl (isR_lt hm) (ent_X4 hm) (by decide) a_915 rfl d kk
theorem gX4_19 {k : Nat} (hO : Ok K cc RX4 nL rm) (hm : isR k) (d : decode cc pc = .ok (.getfield 19, 3)) (kk : Cm K nL cs e σ (pc + 3) lv (.int (σ.1 k 2) :: st)) : Cm K nL cs e σ pc lv (.ref (K.G.A k) :: st) := r_get 2 hO inX4 rfl (isR_lt hm) (ent_X4 hm) (by decide) a_916 rfl d kk
theorem gX4_22 {k : Nat} (hO : Ok K cc RX4 nL rm) (hm : isR k) (d : decode cc pc = .ok (.getfield 22, 3)) (kk : Cm K nL cs e σ (pc + 3) lv (.int (σ.1 k 3) :: st)) : Cm K nL cs e σ pc lv (.ref (K.G.A k) :: st) := r_get 3 hO inX4 rfl (isR_lt hm) (ent_X4 hm) (by decide) a_917 rfl d kk
theorem gX4_25 {k : Nat} (hO : Ok K cc RX4 nL rm) (hm : isR k) (d : decode cc pc = .ok (.getfield 25, 3)) (kk : Cm K nL cs e σ (pc + 3) lv (.int (σ.1 k 4) :: st)) : Cm K nL cs e σ pc lv (.ref (K.G.A k) :: st) := r_get 4 hO inX4 rfl (isR_lt hm) (ent_X4 hm) (by decide) a_918 rfl d kk
theorem gX4_28 {k : Nat} (hO : Ok K cc RX4 nL rm) (hm : isR k) (d : decode cc pc = .ok (.getfield 28, 3)) (kk : Cm K nL cs e σ (pc + 3) lv (.int (σ.1 k 5) :: st)) : Cm K nL cs e σ pc lv (.ref (K.G.A k) :: st) := r_get 5 hO inX4 rfl (isR_lt hm) (ent_X4 hm) (by decide) a_919 rfl d kk
theorem gX4_31 {k : Nat} (hO : Ok K cc RX4 nL rm) (hm : isR k) (d : decode cc pc = .ok (.getfield 31, 3)) (kk : Cm K nL cs e σ (pc + 3) lv (.int (σ.1 k 6) :: st)) : Cm K nL cs e σ pc lv (.ref (K.G.A k) :: st) := r_get 6 hO inX4 rfl (isR_lt hm) (ent_X4 hm) (by decide) a_920 rfl d kk
theorem gX4_34 {k : Nat} (hO : Ok K cc RX4 nL rm) (hm : isR k) (d : decode cc pc = .ok (.getfield 34, 3)) (kk : Cm K nL cs e σ (pc + 3) lv (.int (σ.1 k 7) :: st)) : Cm K nL cs e σ pc lv (.ref (K.G.A k) :: st) := r_get 7 hO inX4 rfl (isR_lt hm) (ent_X4 hm) (by decide) a_921 rfl d kk
theorem gX4_37 {k : Nat} (hO : Ok K cc RX4 nL rm) (hm : isR k) (d : decode cc pc = .ok (.getfield 37, 3)) (kk : Cm K nL cs e σ (pc + 3) lv (.ref (K.G.A (k + 1)) :: st)) : Cm K nL cs e σ pc lv (.ref (K.G.A k) :: st) := r_get 8 hO inX4 rfl (isR_lt hm) (ent_X4 hm) (by decide) a_905 rfl d kk
theorem gX4_41 {k : Nat} (hO : Ok K cc RX4 nL rm) (hm : isR k) (d : decode cc pc = .ok (.getfield 41, 3)) (kk : Cm K nL cs e σ (pc + 3) lv (.ref (K.G.A (k + 2)) :: st)) : Cm K nL cs e σ pc lv (.ref (K.G.A k) :: st) := r_get 9 hO inX4 rfl (isR_lt hm) (ent_X4 hm) (by decide) a_906 rfl d kk
theorem gX4_44 {k : Nat} (hO : Ok K cc RX4 nL rm) (hm : isR k) (d : decode cc pc = .ok (.getfield 44, 3)) (kk : Cm K nL cs e σ (pc + 3) lv (.ref (K.G.A (k + 3)) :: st)) : Cm K nL cs e σ pc lv (.ref (K.G.A k) :: st) := r_get 10 hO inX4 rfl (isR_lt hm) (ent_X4 hm) (by decide) a_907 rfl d kk
theorem gX4_47 {k : Nat} (hO : Ok K cc RX4 nL rm) (hm : isR k) (d : decode cc pc = .ok (.getfield 47, 3)) (kk : Cm K nL cs e σ (pc + 3) lv (.ref (K.G.A (k + 4)) :: st)) : Cm K nL cs e σ pc lv (.ref (K.G.A k) :: st) := r_get 11 hO inX4 rfl (isR_lt hm) (ent_X4 hm) (by decide) a_908 rfl d kk
theorem gX4_50 {k : Nat} (hO : Ok K cc RX4 nL rm) (hm : isR k) (d : decode cc pc = .ok (.getfield 50, 3)) (kk : Cm K nL cs e σ (pc + 3) lv (.ref (K.G.A (k + 5)) :: st)) : Cm K nL cs e σ pc lv (.ref (K.G.A k) :: st) := r_get 12 hO inX4 rfl (isR_lt hm) (ent_X4 hm) (by decide) a_909 rfl d kk
theorem gX4_53 {k : Nat} (hO : Ok K cc RX4 nL rm) (hm : isR k) (d : decode cc pc = .ok (.getfield 53, 3)) (kk : Cm K nL cs e σ (pc + 3) lv (.ref (K.G.A (k + 6)) :: st)) : Cm K nL cs e σ pc lv (.ref (K.G.A k) :: st) := r_get 13 hO inX4 rfl (isR_lt hm) (ent_X4 hm) (by decide) a_910 rfl d kk
theorem gX4_56 {k : Nat} (hO : Ok K cc RX4 nL rm) (hm : isR k) (d : decode cc pc = .ok (.getfield 56, 3)) (kk : Cm K nL cs e σ (pc + 3) lv (.ref (K.G.A (k + 7)) :: st)) : Cm K nL cs e σ pc lv (.ref (K.G.A k) :: st) := r_get 14 hO inX4 rfl (isR_lt hm) (ent_X4 hm) (by decide) a_911 rfl d kk
theorem gX4_59 {k : Nat} (hO : Ok K cc RX4 nL rm) (hm : isR k) (d : decode cc pc = .ok (.getfield 59, 3)) (kk : Cm K nL cs e σ (pc + 3) lv (.ref (K.G.A (k + 8)) :: st)) : Cm K nL cs e σ pc lv (.ref (K.G.A k) :: st) := r_get 15 hO inX4 rfl (isR_lt hm) (ent_X4 hm) (by decide) a_912 rfl d kk
theorem gX4_65 {k : Nat} (hO : Ok K cc RX4 nL rm) (hm : isR k) (d : decode cc pc = .ok (.getfield 65, 3)) (kk : Cm K nL cs e σ (pc + 3) lv (.ref (K.G.A (k + 9)) :: st)) : Cm K nL cs e σ pc lv (.ref (K.G.A k) :: st) := r_get 16 hO inX4 rfl (isR_lt hm) (ent_X4 hm) (by decide) a_913 rfl d kk
theorem gX4_86 {k : Nat} (hO : Ok K cc RX4 nL rm) (hm : isM k) (d : decode cc pc = .ok (.getfield 86, 3)) (kk : Cm K nL cs e σ (pc + 3) lv (.int (σ.1 k 3) :: st)) : Cm K nL cs e σ pc lv (.ref (K.G.A k) :: st) := r_get 3 hO inX3 rfl (isM_lt hm) (ent_X3 hm) (by decide) a_922 rfl d kk
theorem gX4_95 {k : Nat} (hO : Ok K cc RX4 nL rm) (hm : isM k) (d : decode cc pc = .ok (.getfield 95, 3)) (kk : Cm K nL cs e σ (pc + 3) lv (.int (σ.1 k 4) :: st)) : Cm K nL cs e σ pc lv (.ref (K.G.A k) :: st) := r_get 4 hO inX3 rfl (isM_lt hm) (ent_X3 hm) (by decide) a_923 rfl d kk
theorem gX4_116 {k : Nat} (hO : Ok K cc RX4 nL rm) (hm : isM k) (d : decode cc pc = .ok (.getfield 116, 3)) (kk : Cm K nL cs e σ (pc + 3) lv (.ref (K.G.A (k + 7)) :: st)) : Cm K nL cs e σ pc lv (.ref (K.G.A k) :: st) := r_get 11 hO inX3 rfl (isM_lt hm) (ent_X3 hm) (by decide) a_926 rfl d kk
theorem gX4_119 (hO : Ok K cc RX4 nL rm) (d : decode cc pc = .ok (.getfield 119, 3)) (kk : Cm K nL cs e σ (pc + 3) lv (.ref (K.G.A 5) :: st)) : Cm K nL cs e σ pc lv (.ref (K.G.A 4) :: st) := r_get 2 hO inX1 rfl (by decide) ent_X1 (by decide) a_925 rfl d kk
theorem gX4_132 {k : Nat} (hO : Ok K cc RX4 nL rm) (hm : isM k) (d : decode cc pc = .ok (.getfield 132, 3)) (kk : Cm K nL cs e σ (pc + 3) lv (.ref (K.G.A (k + 5)) :: st)) : Cm K nL cs e σ pc lv (.ref (K.G.A k) :: st) := r_get 9 hO inX3 rfl (isM_lt hm) (ent_X3 hm) (by decide) a_924 rfl d kk
theorem gX4_135 {k : Nat} (hO : Ok K cc RX4 nL rm) (hm : isM k) (d : decode cc pc = .ok (.getfield 135, 3)) (kk : Cm K nL cs e σ (pc + 3) lv (.ref (K.G.A (k + 10)) :: st)) : Cm K nL cs e σ pc lv (.ref (K.G.A k) :: st) := r_get 14 hO inX3 rfl (isM_lt hm) (ent_X3 hm) (by decide) a_931 rfl d kk
theorem gX4_138 {k : Nat} (hO : Ok K cc RX4 nL rm) (hm : isM k) (d : decode cc pc = .ok (.getfield 138, 3)) (kk : Cm K nL cs e σ (pc + 3) lv (.ref (K.G.A (k + 9)) :: st)) : Cm K nL cs e σ pc lv (.ref (K.G.A k) :: st) := r_get 13 hO inX3 rfl (isM_lt hm) (ent_X3 hm) (by decide) a_928 rfl d kk
theorem gX4_141 {k : Nat} (hO : Ok K cc RX4 nL rm) (hm : isM k) (d : decode cc pc = .ok (.getfield 141, 3)) (kk : Cm K nL cs e σ (pc + 3) lv (.ref (K.G.A (k + 11)) :: st)) : Cm K nL cs e σ pc lv (.ref (K.G.A k) :: st) := r_get 15 hO inX3 rfl (isM_lt hm) (ent_X3 hm) (by decide) a_932 rfl d kk
theorem gX4_144 {k : Nat} (hO : Ok K cc RX4 nL rm) (hm : isM k) (d : decode cc pc = .ok (.getfield 144, 3)) (kk : Cm K nL cs e σ (pc + 3) lv (.ref (K.G.A (k + 12)) :: st)) : Cm K nL cs e σ pc lv (.ref (K.G.A k) :: st) := r_get 16 hO inX3 rfl (isM_lt hm) (ent_X3 hm) (by decide) a_933 rfl d kk
theorem gX4_155 {k : Nat} (hO : Ok K cc RX4 nL rm) (hm : isM k) (d : decode cc pc = .ok (.getfield 155, 3)) (kk : Cm K nL cs e σ (pc + 3) lv (.int (σ.1 k 2) :: st)) : Cm K nL cs e σ pc lv (.ref (K.G.A k) :: st) := r_get 2 hO inX3 rfl (isM_lt hm) (ent_X3 hm) (by decide) a_930 rfl d kk
theorem gX4_171 {k : Nat} (hO : Ok K cc RX4 nL rm) (hm : isM k) (d : decode cc pc = .ok (.getfield 171, 3)) (kk : Cm K nL cs e σ (pc + 3) lv (.ref (K.G.A (k + 6)) :: st)) : Cm K nL cs e σ pc lv (.ref (K.G.A k) :: st) := r_get 10 hO inX3 rfl (isM_lt hm) (ent_X3 hm) (by decide) a_927 rfl d kk
theorem gX4_177 {k : Nat} (hO : Ok K cc RX4 nL rm) (hm : isM k) (d : decode cc pc = .ok (.getfield 177, 3)) (kk : Cm K nL cs e σ (pc + 3) lv (.ref (K.G.A (k + 8)) :: st)) : Cm K nL cs e σ pc lv (.ref (K.G.A k) :: st) := r_get 12 hO inX3 rfl (isM_lt hm) (ent_X3 hm) (by decide) a_929 rfl d kk
theorem gX5_9 (hO : Ok K cc RX5 nL rm) (d : decode cc pc = .ok (.getfield 9, 3)) (kk : Cm K nL cs e σ (pc + 3) lv (.int (σ.1 1 0) :: st)) : Cm K nL cs e σ pc lv (.ref (K.G.A 1) :: st) := r_get 0 hO inX5 rfl (by decide) ent_X5 (by decide) a_934 rfl d kk
theorem gX5_21 (hO : Ok K cc RX5 nL rm) (d : decode cc pc = .ok (.getfield 21, 3)) (kk : Cm K nL cs e σ (pc + 3) lv (.ref (K.G.A 2) :: st)) : Cm K nL cs e σ pc lv (.ref (K.G.A 1) :: st) := r_get 3 hO inX5 rfl (by decide) ent_X5 (by decide) a_935 rfl d kk
theorem gX5_25 (hO : Ok K cc RX5 nL rm) (d : decode cc pc = .ok (.getfield 25, 3)) (kk : Cm K nL cs e σ (pc + 3) lv (.ref (K.G.A 3) :: st)) : Cm K nL cs e σ pc lv (.ref (K.G.A 1) :: st) := r_get 4 hO inX5 rfl (by decide) ent_X5 (by decide) a_943 rfl d kk
theorem gX5_29 (hO : Ok K cc RX5 nL rm) (d : decode cc pc = .ok (.getfield 29, 3)) (kk : Cm K nL cs e σ (pc + 3) lv (.int (σ.1 1 5) :: st)) : Cm K nL cs e σ pc lv (.ref (K.G.A 1) :: st) := r_get 5 hO inX5 rfl (by decide) ent_X5 (by decide) a_938 rfl d kk
theorem gX5_32 (hO : Ok K cc RX5 nL rm) (d : decode cc pc = .ok (.getfield 32, 3)) (kk : Cm K nL cs e σ (pc + 3) lv (.int (σ.1 1 6) :: st)) : Cm K nL cs e σ pc lv (.ref (K.G.A 1) :: st) := r_get 6 hO inX5 rfl (by decide) ent_X5 (by decide) a_937 rfl d kk
theorem gX5_35 (hO : Ok K cc RX5 nL rm) (d : decode cc pc = .ok (.getfield 35, 3)) (kk : Cm K nL cs e σ (pc + 3) lv (.int (σ.1 1 7) :: st)) : Cm K nL cs e σ pc lv (.ref (K.G.A 1) :: st) := r_get 7 hO inX5 rfl (by decide) ent_X5 (by decide) a_936 rfl d kk
theorem gX5_38 (hO : Ok K cc RX5 nL rm) (d : decode cc pc = .ok (.getfield 38, 3)) (kk : Cm K nL cs e σ (pc + 3) lv (.int (σ.1 1 8) :: st)) : Cm K nL cs e σ pc lv (.ref (K.G.A 1) :: st) := r_get 8 hO inX5 rfl (by decide) ent_X5 (by decide) a_939 rfl d kk
theorem gX5_41 (hO : Ok K cc RX5 nL rm) (d : decode cc pc = .ok (.getfield 41, 3)) (kk : Cm K nL cs e σ (pc + 3) lv (.int (σ.1 1 9) :: st)) : Cm K nL cs e σ pc lv (.ref (K.G.A 1) :: st) := r_get 9 hO inX5 rfl (by decide) ent_X5 (by decide) a_940 rfl d kk
theorem gX5_44 (hO : Ok K cc RX5 nL rm) (d : decode cc pc = .ok (.getfield 44, 3)) (kk : Cm K nL cs e σ (pc + 3) lv (.int (σ.1 1 10) :: st)) : Cm K nL cs e σ pc lv (.ref (K.G.A 1) :: st) := r_get 10 hO inX5 rfl (by decide) ent_X5 (by decide) a_942 rfl d kk
theorem gX5_59 {k : Nat} (hO : Ok K cc RX5 nL rm) (hm : isM k) (d : decode cc pc = .ok (.getfield 59, 3)) (kk : Cm K nL cs e σ (pc + 3) lv (.int (σ.1 k 3) :: st)) : Cm K nL cs e σ pc lv (.ref (K.G.A k) :: st) := r_get 3 hO inX3 rfl (isM_lt hm) (ent_X3 hm) (by decide) a_944 rfl d kk
theorem gX5_92 {k : Nat} (hO : Ok K cc RX5 nL rm) (hm : isM k) (d : decode cc pc = .ok (.getfield 92, 3)) (kk : Cm K nL cs e σ (pc + 3) lv (.int (σ.1 k 4) :: st)) : Cm K nL cs e σ pc lv (.ref (K.G.A k) :: st) := r_get 4 hO inX3 rfl (isM_lt hm) (ent_X3 hm) (by decide) a_956 rfl d kk
theorem gX5_98 {k : Nat} (hO : Ok K cc RX5 nL rm) (hm : isM k) (d : decode cc pc = .ok (.getfield 98, 3)) (kk : Cm K nL cs e σ (pc + 3) lv (.int (σ.1 k 0) :: st)) : Cm K nL cs e σ pc lv (.ref (K.G.A k) :: st) := r_get 0 hO inX3 rfl (isM_lt hm) (ent_X3 hm) (by decide) a_941 rfl d kk
theorem gX5_127 {k : Nat} (hO : Ok K cc RX5 nL rm) (hm : isM k) (d : decode cc pc = .ok (.getfield 127, 3)) (kk : Cm K nL cs e σ (pc + 3) lv (.ref (K.G.A (k + 1)) :: st)) : Cm K nL cs e σ pc lv (.ref (K.G.A k) :: st) := r_get 5 hO inX3 rfl (isM_lt hm) (ent_X3 hm) (by decide) a_945 rfl d kk
theorem gX5_132 {k : Nat} (hO : Ok K cc RX5 nL rm) (hm : isM k) (d : decode cc pc = .ok (.getfield 132, 3)) (kk : Cm K nL cs e σ (pc + 3) lv (.ref (K.G.A (k + 2)) :: st)) : Cm K nL cs e σ pc lv (.ref (K.G.A k) :: st) := r_get 6 hO inX3 rfl (isM_lt hm) (ent_X3 hm) (by decide) a_946 rfl d kk
theorem gX5_138 {k : Nat} (hO : Ok K cc RX5 nL rm) (hm : isM k) (d : decode cc pc = .ok (.getfield 138, 3)) (kk : Cm K nL cs e σ (pc + 3) lv (.ref (K.G.A (k + 3)) :: st)) : Cm K nL cs e σ pc lv (.ref (K.G.A k) :: st) := r_get 7 hO inX3 rfl (isM_lt hm) (ent_X3 hm) (by decide) a_947 rfl d kk
theorem gX5_143 {k : Nat} (hO : Ok K cc RX5 nL rm) (hm : isM k) (d : decode cc pc = .ok (.getfield 143, 3)) (kk : Cm K nL cs e σ (pc + 3) lv (.ref (K.G.A (k + 4)) :: st)) : Cm K nL cs e σ pc lv (.ref (K.G.A k) :: st) := r_get 8 hO inX3 rfl (isM_lt hm) (ent_X3 hm) (by decide) a_948 rfl d kk
theorem gX5_148 {k : Nat} (hO : Ok K cc RX5 nL rm) (hm : isM k) (d : decode cc pc = .ok (.getfield 148, 3)) (kk : Cm K nL cs e σ (pc + 3) lv (.ref (K.G.A (k + 5)) :: st)) : Cm K nL cs e σ pc lv (.ref (K.G.A k) :: st) := r_get 9 hO inX3 rfl (isM_lt hm) (ent_X3 hm) (by decide) a_949 rfl d kk
theorem gX5_154 {k : Nat} (hO : Ok K cc RX5 nL rm) (hm : isM k) (d : decode cc pc = .ok (.getfield 154, 3)) (kk : Cm K nL cs e σ (pc + 3) lv (.ref (K.G.A (k + 6)) :: st)) : Cm K nL cs e σ pc lv (.ref (K.G.A k) :: st) := r_get 10 hO inX3 rfl (isM_lt hm) (ent_X3 hm) (by decide) a_950 rfl d kk
theorem gX5_157 {k : Nat} (hO : Ok K cc RX5 nL rm) (hm : isM k) (d : decode cc pc = .ok (.getfield 157, 3)) (kk : Cm K nL cs e σ (pc + 3) lv (.ref (K.G.A (k + 8)) :: st)) : Cm K nL cs e σ pc lv (.ref (K.G.A k) :: st) := r_get 12 hO inX3 rfl (isM_lt hm) (ent_X3 hm) (by decide) a_951 rfl d kk
theorem gX5_163 {k : Nat} (hO : Ok K cc RX5 nL rm) (hm : isM k) (d : decode cc pc = .ok (.getfield 163, 3)) (kk : Cm K nL cs e σ (pc + 3) lv (.ref (K.G.A (k + 9)) :: st)) : Cm K nL cs e σ pc lv (.ref (K.G.A k) :: st) := r_get 13 hO inX3 rfl (isM_lt hm) (ent_X3 hm) (by decide) a_952 rfl d kk
theorem gX5_166 {k : Nat} (hO : Ok K cc RX5 nL rm) (hm : isM k) (d : decode cc pc = .ok (.getfield 166, 3)) (kk : Cm K nL cs e σ (pc + 3) lv (.ref (K.G.A (k + 10)) :: st)) : Cm K nL cs e σ pc lv (.ref (K.G.A k) :: st) := r_get 14 hO inX3 rfl (isM_lt hm) (ent_X3 hm) (by decide) a_953 rfl d kk
theorem gX5_169 {k : Nat} (hO : Ok K cc RX5 nL rm) (hm : isM k) (d : decode cc pc = .ok (.getfield 169, 3)) (kk : Cm K nL cs e σ (pc + 3) lv (.ref (K.G.A (k + 11)) :: st)) : Cm K nL cs e σ pc lv (.ref (K.G.A k) :: st) := r_get 15 hO inX3 rfl (isM_lt hm) (ent_X3 hm) (by decide) a_954 rfl d kk
theorem gX5_172 {k : Nat} (hO : Ok K cc RX5 nL rm) (hm : isM k) (d : decode cc pc = .ok (.getfield 172, 3)) (kk : Cm K nL cs e σ (pc + 3) lv (.ref (K.G.A (k + 12)) :: st)) : Cm K nL cs e σ pc lv (.ref (K.G.A k) :: st) := r_get 16 hO inX3 rfl (isM_lt hm) (ent_X3 hm) (by decide) a_955 rfl d kk
theorem gX6_12 (hO : Ok K cc RX6 nL rm) (d : decode cc pc = .ok (.getfield 12, 3)) (kk : Cm K nL cs e σ (pc + 3) lv (.ref (K.G.A 1) :: st)) : Cm K nL cs e σ pc lv (.ref (K.G.A 0) :: st) := r_get 0 hO inX6 rfl (by decide) ent_X6 (by decide) a_957 rfl d kk
theorem gX6_21 (hO : Ok K cc RX6 nL rm) (d : decode cc pc = .ok (.getfield 21, 3)) (kk : Cm K nL cs e σ (pc + 3) lv (.ref (K.G.A 4) :: st)) : Cm K nL cs e σ pc lv (.ref (K.G.A 0) :: st) := r_get 1 hO inX6 rfl (by decide) ent_X6 (by decide) a_980 rfl d kk
theorem gX6_28 (hO : Ok K cc RX6 nL rm) (d : decode cc pc = .ok (.getfield 28, 3)) (kk : Cm K nL cs e σ (pc + 3) lv (.ref (K.G.A 10) :: st)) : Cm K nL cs e σ pc lv (.ref (K.G.A 0) :: st) := r_get 2 hO inX6 rfl (by decide) ent_X6 (by decide) a_984 rfl d kk
theorem gX6_35 (hO : Ok K cc RX6 nL rm) (d : decode cc pc = .ok (.getfield 35, 3)) (kk : Cm K nL cs e σ (pc + 3) lv (.ref (K.G.A (σ.2.2 0 3)) :: st)) : Cm K nL cs e σ pc lv (.ref (K.G.A 0) :: st) := r_get 3 hO inX6 rfl (by decide) ent_X6 (by decide) a_959 rfl d kk
theorem gX6_39 (hO : Ok K cc RX6 nL rm) (d : decode cc pc = .ok (.getfield 39, 3)) (kk : Cm K nL cs e σ (pc + 3) lv (.ref (K.G.A (σ.2.2 0 4)) :: st)) : Cm K nL cs e σ pc lv (.ref (K.G.A 0) :: st) := r_get 4 hO inX6 rfl (by decide) ent_X6 (by decide) a_961 rfl d kk
theorem gX6_42 (hO : Ok K cc RX6 nL rm) (d : decode cc pc = .ok (.getfield 42, 3)) (kk : Cm K nL cs e σ (pc + 3) lv (.ref (K.G.A 37) :: st)) : Cm K nL cs e σ pc lv (.ref (K.G.A 0) :: st) := r_get 5 hO inX6 rfl (by decide) ent_X6 (by decide) a_999 rfl d kk
theorem gX6_45 (hO : Ok K cc RX6 nL rm) (d : decode cc pc = .ok (.getfield 45, 3)) (kk : Cm K nL cs e σ (pc + 3) lv (.ref (K.G.A 50) :: st)) : Cm K nL cs e σ pc lv (.ref (K.G.A 0) :: st) := r_get 6 hO inX6 rfl (by decide) ent_X6 (by decide) a_994 rfl d kk
theorem gX6_51 (hO : Ok K cc RX6 nL rm) (d : decode cc pc = .ok (.getfield 51, 3)) (kk : Cm K nL cs e σ (pc + 3) lv (.ref (K.G.A 63) :: st)) : Cm K nL cs e σ pc lv (.ref (K.G.A 0) :: st) := r_get 7 hO inX6 rfl (by decide) ent_X6 (by decide) a_962 rfl d kk
theorem gX6_55 (hO : Ok K cc RX6 nL rm) (d : decode cc pc = .ok (.getfield 55, 3)) (kk : Cm K nL cs e σ (pc + 3) lv (.ref (K.G.A 76) :: st)) : Cm K nL cs e σ pc lv (.ref (K.G.A 0) :: st) := r_get 8 hO inX6 rfl (by decide) ent_X6 (by decide) a_1000 rfl d kk
theorem gX6_58 (hO : Ok K cc RX6 nL rm) (d : decode cc pc = .ok (.getfield 58, 3)) (kk : Cm K nL cs e σ (pc + 3) lv (.ref (K.G.A 89) :: st)) : Cm K nL cs e σ pc lv (.ref (K.G.A 0) :: st) := r_get 9 hO inX6 rfl (by decide) ent_X6 (by decide) a_995 rfl d kk
theorem gX6_61 (hO : Ok K cc RX6 nL rm) (d : decode cc pc = .ok (.getfield 61, 3)) (kk : Cm K nL cs e σ (pc + 3) lv (.int (σ.1 0 10) :: st)) : Cm K nL cs e σ pc lv (.ref (K.G.A 0) :: st) := r_get 10 hO inX6 rfl (by decide) ent_X6 (by decide) a_967 rfl d kk
theorem gX6_65 (hO : Ok K cc RX6 nL rm) (d : decode cc pc = .ok (.getfield 65, 3)) (kk : Cm K nL cs e σ (pc + 3) lv (.int (σ.1 0 11) :: st)) : Cm K nL cs e σ pc lv (.ref (K.G.A 0) :: st) := r_get 11 hO inX6 rfl (by decide) ent_X6 (by decide) a_1001 rfl d kk
theorem gX6_68 (hO : Ok K cc RX6 nL rm) (d : decode cc pc = .ok (.getfield 68, 3)) (kk : Cm K nL cs e σ (pc + 3) lv (.int (σ.1 0 12) :: st)) : Cm K nL cs e σ pc lv (.ref (K.G.A 0) :: st) := r_get 12 hO inX6 rfl (by decide) ent_X6 (by decide) a_965 rfl d kk
theorem gX6_72 (hO : Ok K cc RX6 nL rm) (d : decode cc pc = .ok (.getfield 72, 3)) (kk : Cm K nL cs e σ (pc + 3) lv (.int (σ.1 0 13) :: st)) : Cm K nL cs e σ pc lv (.ref (K.G.A 0) :: st) := r_get 13 hO inX6 rfl (by decide) ent_X6 (by decide) a_964 rfl d kk
theorem gX6_75 (hO : Ok K cc RX6 nL rm) (d : decode cc pc = .ok (.getfield 75, 3)) (kk : Cm K nL cs e σ (pc + 3) lv (.int (σ.1 1 0) :: st)) : Cm K nL cs e σ pc lv (.ref (K.G.A 1) :: st) := r_get 0 hO inX5 rfl (by decide) ent_X5 (by decide) a_958 rfl d kk
theorem gX6_86 (hO : Ok K cc RX6 nL rm) (d : decode cc pc = .ok (.getfield 86, 3)) (kk : Cm K nL cs e σ (pc + 3) lv (.int (σ.1 1 1) :: st)) : Cm K nL cs e σ pc lv (.ref (K.G.A 1) :: st) := r_get 1 hO inX5 rfl (by decide) ent_X5 (by decide) a_960 rfl d kk
theorem gX6_92 {k : Nat} (hO : Ok K cc RX6 nL rm) (hm : isM k) (d : decode cc pc = .ok (.getfield 92, 3)) (kk : Cm K nL cs e σ (pc + 3) lv (.int (σ.1 k 3) :: st)) : Cm K nL cs e σ pc lv (.ref (K.G.A k) :: st) := r_get 3 hO inX3 rfl (isM_lt hm) (ent_X3 hm) (by decide) a_963 rfl d kk
theorem gX6_95 (hO : Ok K cc RX6 nL rm) (d : decode cc pc = .ok (.getfield 95, 3)) (kk : Cm K nL cs e σ (pc + 3) lv (.int (σ.1 1 2) :: st)) : Cm K nL cs e σ pc lv (.ref (K.G.A 1) :: st) := r_get 2 hO inX5 rfl (by decide) ent_X5 (by decide) a_966 rfl d kk
theorem gX6_106 {k : Nat} (hO : Ok K cc RX6 nL rm) (hm : isM k) (d : decode cc pc = .ok (.getfield 106, 3)) (kk : Cm K nL cs e σ (pc + 3) lv (.int (σ.1 k 0) :: st)) : Cm K nL cs e σ pc lv (.ref (K.G.A k) :: st) := r_get 0 hO inX3 rfl (isM_lt hm) (ent_X3 hm) (by decide) a_968 rfl d kk
theorem gX6_109 {k : Nat} (hO : Ok K cc RX6 nL rm) (hm : isM k) (d : decode cc pc = .ok (.getfield 109, 3)) (kk : Cm K nL cs e σ (pc + 3) lv (.int (σ.1 k 1) :: st)) : Cm K nL cs e σ pc lv (.ref (K.G.A k) :: st) := r_get 1 hO inX3 rfl (isM_lt hm) (ent_X3 hm) (by decide) a_969 rfl d kk
theorem gX6_112 {k : Nat} (hO : Ok K cc RX6 nL rm) (hm : isM k) (d : decode cc pc = .ok (.getfield 112, 3)) (kk : Cm K nL cs e σ (pc + 3) lv (.int (σ.1 k 2) :: st)) : Cm K nL cs e σ pc lv (.ref (K.G.A k) :: st) := r_get 2 hO inX3 rfl (isM_lt hm) (ent_X3 hm) (by decide) a_970 rfl d kk
theorem gX6_115 {k : Nat} (hO : Ok K cc RX6 nL rm) (hm : isM k) (d : decode cc pc = .ok (.getfield 115, 3)) (kk : Cm K nL cs e σ (pc + 3) lv (.int (σ.1 k 4) :: st)) : Cm K nL cs e σ pc lv (.ref (K.G.A k) :: st) := r_get 4 hO inX3 rfl (isM_lt hm) (ent_X3 hm) (by decide) a_971 rfl d kk
theorem gX6_123 {k : Nat} (hO : Ok K cc RX6 nL rm) (hm : isM k) (d : decode cc pc = .ok (.getfield 123, 3)) (kk : Cm K nL cs e σ (pc + 3) lv (.ref (K.G.A (k + 1)) :: st)) : Cm K nL cs e σ pc lv (.ref (K.G.A k) :: st) := r_get 5 hO inX3 rfl (isM_lt hm) (ent_X3 hm) (by decide) a_972 rfl d kk
theorem gX6_127 {k : Nat} (hO : Ok K cc RX6 nL rm) (hm : isM k) (d : decode cc pc = .ok (.getfield 127, 3)) (kk : Cm K nL cs e σ (pc + 3) lv (.ref (K.G.A (k + 2)) :: st)) : Cm K nL cs e σ pc lv (.ref (K.G.A k) :: st) := r_get 6 hO inX3 rfl (isM_lt hm) (ent_X3 hm) (by decide) a_973 rfl d kk
theorem gX6_130 {k : Nat} (hO : Ok K cc RX6 nL rm) (hm : isM k) (d : decode cc pc = .ok (.getfield 130, 3)) (kk : Cm K nL cs e σ (pc + 3) lv (.ref (K.G.A (k + 3)) :: st)) : Cm K nL cs e σ pc lv (.ref (K.G.A k) :: st) := r_get 7 hO inX3 rfl (isM_lt hm) (ent_X3 hm) (by decide) a_974 rfl d kk
theorem gX6_133 {k : Nat} (hO : Ok K cc RX6 nL rm) (hm : isM k) (d : decode cc pc = .ok (.getfield 133, 3)) (kk : Cm K nL cs e σ (pc + 3) lv (.ref (K.G.A (k + 4)) :: st)) : Cm K nL cs e σ pc lv (.ref (K.G.A k) :: st) := r_get 8 hO inX3 rfl (isM_lt hm) (ent_X3 hm) (by decide) a_975 rfl d kk
theorem gX6_136 {k : Nat} (hO : Ok K cc RX6 nL rm) (hm : isM k) (d : decode cc pc = .ok (.getfield 136, 3)) (kk : Cm K nL cs e σ (pc + 3) lv (.ref (K.G.A (k + 5)) :: st)) : Cm K nL cs e σ pc lv (.ref (K.G.A k) :: st) := r_get 9 hO inX3 rfl (isM_lt hm) (ent_X3 hm) (by decide) a_976 rfl d kk
theorem gX6_139 {k : Nat} (hO : Ok K cc RX6 nL rm) (hm : isM k) (d : decode cc pc = .ok (.getfield 139, 3)) (kk : Cm K nL cs e σ (pc + 3) lv (.ref (K.G.A (k + 6)) :: st)) : Cm K nL cs e σ pc lv (.ref (K.G.A k) :: st) := r_get 10 hO inX3 rfl (isM_lt hm) (ent_X3 hm) (by decide) a_977 rfl d kk
theorem gX6_154 {k : Nat} (hO : Ok K cc RX6 nL rm) (hm : isM k) (d : decode cc pc = .ok (.getfield 154, 3)) (kk : Cm K nL cs e σ (pc + 3) lv (.ref (K.G.A (k + 8)) :: st)) : Cm K nL cs e σ pc lv (.ref (K.G.A k) :: st) := r_get 12 hO inX3 rfl (isM_lt hm) (ent_X3 hm) (by decide) a_978 rfl d kk
theorem gX6_157 {k : Nat} (hO : Ok K cc RX6 nL rm) (hm : isM k) (d : decode cc pc = .ok (.getfield 157, 3)) (kk : Cm K nL cs e σ (pc + 3) lv (.ref (K.G.A (k + 9)) :: st)) : Cm K nL cs e σ pc lv (.ref (K.G.A k) :: st) := r_get 13 hO inX3 rfl (isM_lt hm) (ent_X3 hm) (by decide) a_979 rfl d kk
theorem gX6_180 (hO : Ok K cc RX6 nL rm) (d : decode cc pc = .ok (.getfield 180, 3)) (kk : Cm K nL cs e σ (pc + 3) lv (.int (σ.1 4 0) :: st)) : Cm K nL cs e σ pc lv (.ref (K.G.A 4) :: st) := r_get 0 hO inX1 rfl (by decide) ent_X1 (by decide) a_981 rfl d kk
theorem gX6_183 (hO : Ok K cc RX6 nL rm) (d : decode cc pc = .ok (.getfield 183, 3)) (kk : Cm K nL cs e σ (pc + 3) lv (.int (σ.1 4 1) :: st)) : Cm K nL cs e σ pc lv (.ref (K.G.A 4) :: st) := r_get 1 hO inX1 rfl (by decide) ent_X1 (by decide) a_982 rfl d kk
theorem gX6_186 (hO : Ok K cc RX6 nL rm) (d : decode cc pc = .ok (.getfield 186, 3)) (kk : Cm K nL cs e σ (pc + 3) lv (.ref (K.G.A 5) :: st)) : Cm K nL cs e σ pc lv (.ref (K.G.A 4) :: st) := r_get 2 hO inX1 rfl (by decide) ent_X1 (by decide) a_983 rfl d kk
theorem gX6_193 (hO : Ok K cc RX6 nL rm) (d : decode cc pc = .ok (.getfield 193, 3)) (kk : Cm K nL cs e σ (pc + 3) lv (.int (σ.1 10 0) :: st)) : Cm K nL cs e σ pc lv (.ref (K.G.A 10) :: st) := r_get 0 hO inX0 rfl (by decide) ent_X0 (by decide) a_985 rfl d kk
theorem gX6_196 (hO : Ok K cc RX6 nL rm) (d : decode cc pc = .ok (.getfield 196, 3)) (kk : Cm K nL cs e σ (pc + 3) lv (.int (σ.1 10 1) :: st)) : Cm K nL cs e σ pc lv (.ref (K.G.A 10) :: st) := r_get 1 hO inX0 rfl (by decide) ent_X0 (by decide) a_986 rfl d kk
theorem gX6_213 {k : Nat} (hO : Ok K cc RX6 nL rm) (hm : isR k) (d : decode cc pc = .ok (.getfield 213, 3)) (kk : Cm K nL cs e σ (pc + 3) lv (.int (σ.1 k 0) :: st)) : Cm K nL cs e σ pc lv (.ref (K.G.A k) :: st) := r_get 0 hO inX4 rfl (isR_lt hm) (ent_X4 hm) (by decide) a_987 rfl d kk
theorem gX6_216 {k : Nat} (hO : Ok K cc RX6 nL rm) (hm : isM k) (d : decode cc pc = .ok (.getfield 216, 3)) (kk : Cm K nL cs e σ (pc + 3) lv (.ref (K.G.A (k + 7)) :: st)) : Cm K nL cs e σ pc lv (.ref (K.G.A k) :: st) := r_get 11 hO inX3 rfl (isM_lt hm) (ent_X3 hm) (by decide) a_988 rfl d kk
theorem gX6_239 {k : Nat} (hO : Ok K cc RX6 nL rm) (hm : isR k) (d : decode cc pc = .ok (.getfield 239, 3)) (kk : Cm K nL cs e σ (pc + 3) lv (.ref (K.G.A (k + 9)) :: st)) : Cm K nL cs e σ pc lv (.ref (K.G.A k) :: st) := r_get 16 hO inX4 rfl (isR_lt hm) (ent_X4 hm) (by decide) a_989 rfl d kk
theorem gX6_243 {k : Nat} (hO : Ok K cc RX6 nL rm) (hm : isL k) (d : decode cc pc = .ok (.getfield 243, 3)) (kk : Cm K nL cs e σ (pc + 3) lv (.int (σ.1 k 0) :: st)) : Cm K nL cs e σ pc lv (.ref (K.G.A k) :: st) := r_get 0 hO inX2 rfl (isL_lt hm) (ent_X2 hm) (by decide) a_990 rfl d kk
theorem gX6_248 {k : Nat} (hO : Ok K cc RX6 nL rm) (hm : isL k) (d : decode cc pc = .ok (.getfield 248, 3)) (kk : Cm K nL cs e σ (pc + 3) lv (.ref (K.G.A (k + 1)) :: st)) : Cm K nL cs e σ pc lv (.ref (K.G.A k) :: st) := r_get 1 hO inX2 rfl (isL_lt hm) (ent_X2 hm) (by decide) a_991 rfl d kk
theorem gX6_251 {k : Nat} (hO : Ok K cc RX6 nL rm) (hm : isL k) (d : decode cc pc = .ok (.getfield 251, 3)) (kk : Cm K nL cs e σ (pc + 3) lv (.ref (K.G.A (k + 2)) :: st)) : Cm K nL cs e σ pc lv (.ref (K.G.A k) :: st) := r_get 2 hO inX2 rfl (isL_lt hm) (ent_X2 hm) (by decide) a_992 rfl d kk
theorem gX6_254 {k : Nat} (hO : Ok K cc RX6 nL rm) (hm : isL k) (d : decode cc pc = .ok (.getfield 254, 3)) (kk : Cm K nL cs e σ (pc + 3) lv (.ref (K.G.A (k + 3)) :: st)) : Cm K nL cs e σ pc lv (.ref (K.G.A k) :: st) := r_get 3 hO inX2 rfl (isL_lt hm) (ent_X2 hm) (by decide) a_993 rfl d kk
theorem gX6_282 {k : Nat} (hO : Ok K cc RX6 nL rm) (hm : isR k) (d : decode cc pc = .ok (.getfield 282, 3)) (kk : Cm K nL cs e σ (pc + 3) lv (.int (σ.1 k 3) :: st)) : Cm K nL cs e σ pc lv (.ref (K.G.A k) :: st) := r_get 3 hO inX4 rfl (isR_lt hm) (ent_X4 hm) (by decide) a_996 rfl d kk
theorem gX6_288 {k : Nat} (hO : Ok K cc RX6 nL rm) (hm : isR k) (d : decode cc pc = .ok (.getfield 288, 3)) (kk : Cm K nL cs e σ (pc + 3) lv (.ref (K.G.A (k + 8)) :: st)) : Cm K nL cs e σ pc lv (.ref (K.G.A k) :: st) := r_get 15 hO inX4 rfl (isR_lt hm) (ent_X4 hm) (by decide) a_997 rfl d kk
theorem gX6_291 {k : Nat} (hO : Ok K cc RX6 nL rm) (hm : isR k) (d : decode cc pc = .ok (.getfield 291, 3)) (kk : Cm K nL cs e σ (pc + 3) lv (.int (σ.1 k 1) :: st)) : Cm K nL cs e σ pc lv (.ref (K.G.A k) :: st) := r_get 1 hO inX4 rfl (isR_lt hm) (ent_X4 hm) (by decide) a_998 rfl d kk
theorem gX7_11 (hO : Ok K cc RX7 nL rm) (d : decode cc pc = .ok (.getfield 11, 3)) (kk : Cm K nL cs e σ (pc + 3) lv (.int (σ.1 102 2) :: st)) : Cm K nL cs e σ pc lv (.ref (K.G.A 102) :: st) := r_get 2 hO inX7 rfl (by decide) ent_X7 (by decide) a_1027 rfl d kk
theorem gX7_15 (hO : Ok K cc RX7 nL rm) (d : decode cc pc = .ok (.getfield 15, 3)) (kk : Cm K nL cs e σ (pc + 3) lv (.ref (K.G.A 103) :: st)) : Cm K nL cs e σ pc lv (.ref (K.G.A 102) :: st) := r_get 3 hO inX7 rfl (by decide) ent_X7 (by decide) a_1020 rfl d kk
theorem gX7_19 (hO : Ok K cc RX7 nL rm) (d : decode cc pc = .ok (.getfield 19, 3)) (kk : Cm K nL cs e σ (pc + 3) lv (.ref (K.G.A 104) :: st)) : Cm K nL cs e σ pc lv (.ref (K.G.A 102) :: st) := r_get 4 hO inX7 rfl (by decide) ent_X7 (by decide) a_1024 rfl d kk
theorem gX7_22 (hO : Ok K cc RX7 nL rm) (d : decode cc pc = .ok (.getfield 22, 3)) (kk : Cm K nL cs e σ (pc + 3) lv (.ref (K.G.A 105) :: st)) : Cm K nL cs e σ pc lv (.ref (K.G.A 102) :: st) := r_get 5 hO inX7 rfl (by decide) ent_X7 (by decide) a_1025 rfl d kk
theorem gX7_25 (hO : Ok K cc RX7 nL rm) (d : decode cc pc = .ok (.getfield 25, 3)) (kk : Cm K nL cs e σ (pc + 3) lv (.ref (K.G.A 106) :: st)) : Cm K nL cs e σ pc lv (.ref (K.G.A 102) :: st) := r_get 6 hO inX7 rfl (by decide) ent_X7 (by decide) a_1013 rfl d kk
theorem gX7_28 (hO : Ok K cc RX7 nL rm) (d : decode cc pc = .ok (.getfield 28, 3)) (kk : Cm K nL cs e σ (pc + 3) lv (.ref (K.G.A 107) :: st)) : Cm K nL cs e σ pc lv (.ref (K.G.A 102) :: st) := r_get 7 hO inX7 rfl (by decide) ent_X7 (by decide) a_1015 rfl d kk
theorem gX7_31 (hO : Ok K cc RX7 nL rm) (d : decode cc pc = .ok (.getfield 31, 3)) (kk : Cm K nL cs e σ (pc + 3) lv (.ref (K.G.A 108) :: st)) : Cm K nL cs e σ pc lv (.ref (K.G.A 102) :: st) := r_get 8 hO inX7 rfl (by decide) ent_X7 (by decide) a_1018 rfl d kk
theorem gX7_34 (hO : Ok K cc RX7 nL rm) (d : decode cc pc = .ok (.getfield 34, 3)) (kk : Cm K nL cs e σ (pc + 3) lv (.ref (K.G.A 109) :: st)) : Cm K nL cs e σ pc lv (.ref (K.G.A 102) :: st) := r_get 9 hO inX7 rfl (by decide) ent_X7 (by decide) a_1016 rfl d kk
theorem gX7_37 (hO : Ok K cc RX7 nL rm) (d : decode cc pc = .ok (.getfield 37, 3)) (kk : Cm K nL cs e σ (pc + 3) lv (.ref (K.G.A 110) :: st)) : Cm K nL cs e σ pc lv (.ref (K.G.A 102) :: st) := r_get 10 hO inX7 rfl (by decide) ent_X7 (by decide) a_1014 rfl d kk
theorem gX7_40 (hO : Ok K cc RX7 nL rm) (d : decode cc pc = .ok (.getfield 40, 3)) (kk : Cm K nL cs e σ (pc + 3) lv (.ref (K.G.A 111) :: st)) : Cm K nL cs e σ pc lv (.ref (K.G.A 102) :: st) := r_get 11 hO inX7 rfl (by decide) ent_X7 (by decide) a_1011 rfl d kk
theorem gX7_44 (hO : Ok K cc RX7 nL rm) (d : decode cc pc = .ok (.getfield 44, 3)) (kk : Cm K nL cs e σ (pc + 3) lv (.ref (K.G.A 112) :: st)) : Cm K nL cs e σ pc lv (.ref (K.G.A 102) :: st) := r_get 22 hO inX7 rfl (by decide) ent_X7 (by decide) a_1021 rfl d kk
theorem gX7_47 (hO : Ok K cc RX7 nL rm) (d : decode cc pc = .ok (.getfield 47, 3)) (kk : Cm K nL cs e σ (pc + 3) lv (.ref (K.G.A 113) :: st)) : Cm K nL cs e σ pc lv (.ref (K.G.A 102) :: st) := r_get 23 hO inX7 rfl (by decide) ent_X7 (by decide) a_1040 rfl d kk
theorem gX7_50 (hO : Ok K cc RX7 nL rm) (d : decode cc pc = .ok (.getfield 50, 3)) (kk : Cm K nL cs e σ (pc + 3) lv (.ref (K.G.A 114) :: st)) : Cm K nL cs e σ pc lv (.ref (K.G.A 102) :: st) := r_get 24 hO inX7 rfl (by decide) ent_X7 (by decide) a_1039 rfl d kk
theorem gX7_53 (hO : Ok K cc RX7 nL rm) (d : decode cc pc = .ok (.getfield 53, 3)) (kk : Cm K nL cs e σ (pc + 3) lv (.ref (K.G.A 115) :: st)) : Cm K nL cs e σ pc lv (.ref (K.G.A 102) :: st) := r_get 26 hO inX7 rfl (by decide) ent_X7 (by decide) a_1003 rfl d kk
theorem gX7_57 (hO : Ok K cc RX7 nL rm) (d : decode cc pc = .ok (.getfield 57, 3)) (kk : Cm K nL cs e σ (pc + 3) lv (.ref (K.G.A 116) :: st)) : Cm K nL cs e σ pc lv (.ref (K.G.A 102) :: st) := r_get 35 hO inX7 rfl (by decide) ent_X7 (by decide) a_1032 rfl d kk
theorem gX7_60 (hO : Ok K cc RX7 nL rm) (d : decode cc pc = .ok (.getfield 60, 3)) (kk : Cm K nL cs e σ (pc + 3) lv (.ref (K.G.A 117) :: st)) : Cm K nL cs e σ pc lv (.ref (K.G.A 102) :: st) := r_get 36 hO inX7 rfl (by decide) ent_X7 (by decide) a_1034 rfl d kk
theorem gX7_63 (hO : Ok K cc RX7 nL rm) (d : decode cc pc = .ok (.getfield 63, 3)) (kk : Cm K nL cs e σ (pc + 3) lv (.ref (K.G.A 118) :: st)) : Cm K nL cs e σ pc lv (.ref (K.G.A 102) :: st) := r_get 40 hO inX7 rfl (by decide) ent_X7 (by decide) a_1037 rfl d kk
theorem gX7_66 (hO : Ok K cc RX7 nL rm) (d : decode cc pc = .ok (.getfield 66, 3)) (kk : Cm K nL cs e σ (pc + 3) lv (.ref (K.G.A 119) :: st)) : Cm K nL cs e σ pc lv (.ref (K.G.A 102) :: st) := r_get 41 hO inX7 rfl (by decide) ent_X7 (by decide) a_1038 rfl d kk
theorem gX7_73 (hO : Ok K cc RX7 nL rm) (d : decode cc pc = .ok (.getfield 73, 3)) (kk : Cm K nL cs e σ (pc + 3) lv (.int (σ.1 102 1) :: st)) : Cm K nL cs e σ pc lv (.ref (K.G.A 102) :: st) := r_get 1 hO inX7 rfl (by decide) ent_X7 (by decide) a_1042 rfl d kk
theorem gX7_81 (hO : Ok K cc RX7 nL rm) (d : decode cc pc = .ok (.getfield 81, 3)) (kk : Cm K nL cs e σ (pc + 3) lv (.int (σ.1 102 28) :: st)) : Cm K nL cs e σ pc lv (.ref (K.G.A 102) :: st) := r_get 28 hO inX7 rfl (by decide) ent_X7 (by decide) a_1002 rfl d kk
theorem gX7_84 (hO : Ok K cc RX7 nL rm) (d : decode cc pc = .ok (.getfield 84, 3)) (kk : Cm K nL cs e σ (pc + 3) lv (.int (σ.1 102 33) :: st)) : Cm K nL cs e σ pc lv (.ref (K.G.A 102) :: st) := r_get 33 hO inX7 rfl (by decide) ent_X7 (by decide) a_1008 rfl d kk
theorem gX7_87 (hO : Ok K cc RX7 nL rm) (d : decode cc pc = .ok (.getfield 87, 3)) (kk : Cm K nL cs e σ (pc + 3) lv (.int (σ.1 102 29) :: st)) : Cm K nL cs e σ pc lv (.ref (K.G.A 102) :: st) := r_get 29 hO inX7 rfl (by decide) ent_X7 (by decide) a_1004 rfl d kk
theorem gX7_93 (hO : Ok K cc RX7 nL rm) (d : decode cc pc = .ok (.getfield 93, 3)) (kk : Cm K nL cs e σ (pc + 3) lv (.int (σ.1 102 31) :: st)) : Cm K nL cs e σ pc lv (.ref (K.G.A 102) :: st) := r_get 31 hO inX7 rfl (by decide) ent_X7 (by decide) a_1005 rfl d kk
theorem gX7_96 (hO : Ok K cc RX7 nL rm) (d : decode cc pc = .ok (.getfield 96, 3)) (kk : Cm K nL cs e σ (pc + 3) lv (.int (σ.1 102 30) :: st)) : Cm K nL cs e σ pc lv (.ref (K.G.A 102) :: st) := r_get 30 hO inX7 rfl (by decide) ent_X7 (by decide) a_1009 rfl d kk
theorem gX7_113 (hO : Ok K cc RX7 nL rm) (d : decode cc pc = .ok (.getfield 113, 3)) (kk : Cm K nL cs e σ (pc + 3) lv (.long (σ.2.1 102 34) :: st)) : Cm K nL cs e σ pc lv (.ref (K.G.A 102) :: st) := r_get 34 hO inX7 rfl (by decide) ent_X7 (by decide) a_1006 rfl d kk
theorem gX7_117 (hO : Ok K cc RX7 nL rm) (d : decode cc pc = .ok (.getfield 117, 3)) (kk : Cm K nL cs e σ (pc + 3) lv (.int (σ.1 102 32) :: st)) : Cm K nL cs e σ pc lv (.ref (K.G.A 102) :: st) := r_get 32 hO inX7 rfl (by decide) ent_X7 (by decide) a_1007 rfl d kk
theorem gX7_150 (hO : Ok K cc RX7 nL rm) (d : decode cc pc = .ok (.getfield 150, 3)) (kk : Cm K nL cs e σ (pc + 3) lv (.int (σ.1 102 19) :: st)) : Cm K nL cs e σ pc lv (.ref (K.G.A 102) :: st) := r_get 19 hO inX7 rfl (by decide) ent_X7 (by decide) a_1010 rfl d kk
theorem gX7_160 (hO : Ok K cc RX7 nL rm) (d : decode cc pc = .ok (.getfield 160, 3)) (kk : Cm K nL cs e σ (pc + 3) lv (.int (σ.1 102 16) :: st)) : Cm K nL cs e σ pc lv (.ref (K.G.A 102) :: st) := r_get 16 hO inX7 rfl (by decide) ent_X7 (by decide) a_1012 rfl d kk
theorem gX7_163 (hO : Ok K cc RX7 nL rm) (d : decode cc pc = .ok (.getfield 163, 3)) (kk : Cm K nL cs e σ (pc + 3) lv (.int (σ.1 102 20) :: st)) : Cm K nL cs e σ pc lv (.ref (K.G.A 102) :: st) := r_get 20 hO inX7 rfl (by decide) ent_X7 (by decide) a_1017 rfl d kk
theorem gX7_193 (hO : Ok K cc RX7 nL rm) (d : decode cc pc = .ok (.getfield 193, 3)) (kk : Cm K nL cs e σ (pc + 3) lv (.int (σ.1 102 17) :: st)) : Cm K nL cs e σ pc lv (.ref (K.G.A 102) :: st) := r_get 17 hO inX7 rfl (by decide) ent_X7 (by decide) a_1022 rfl d kk
theorem gX7_196 (hO : Ok K cc RX7 nL rm) (d : decode cc pc = .ok (.getfield 196, 3)) (kk : Cm K nL cs e σ (pc + 3) lv (.int (σ.1 102 18) :: st)) : Cm K nL cs e σ pc lv (.ref (K.G.A 102) :: st) := r_get 18 hO inX7 rfl (by decide) ent_X7 (by decide) a_1023 rfl d kk
theorem gX7_226 (hO : Ok K cc RX7 nL rm) (d : decode cc pc = .ok (.getfield 226, 3)) (kk : Cm K nL cs e σ (pc + 3) lv (.int (σ.1 102 27) :: st)) : Cm K nL cs e σ pc lv (.ref (K.G.A 102) :: st) := r_get 27 hO inX7 rfl (by decide) ent_X7 (by decide) a_1019 rfl d kk
theorem gX7_235 (hO : Ok K cc RX7 nL rm) (d : decode cc pc = .ok (.getfield 235, 3)) (kk : Cm K nL cs e σ (pc + 3) lv (.int (σ.1 102 14) :: st)) : Cm K nL cs e σ pc lv (.ref (K.G.A 102) :: st) := r_get 14 hO inX7 rfl (by decide) ent_X7 (by decide) a_1026 rfl d kk
theorem gX7_241 (hO : Ok K cc RX7 nL rm) (d : decode cc pc = .ok (.getfield 241, 3)) (kk : Cm K nL cs e σ (pc + 3) lv (.int (σ.1 102 21) :: st)) : Cm K nL cs e σ pc lv (.ref (K.G.A 102) :: st) := r_get 21 hO inX7 rfl (by decide) ent_X7 (by decide) a_1028 rfl d kk
theorem gX7_245 (hO : Ok K cc RX7 nL rm) (d : decode cc pc = .ok (.getfield 245, 3)) (kk : Cm K nL cs e σ (pc + 3) lv (.int (σ.1 102 25) :: st)) : Cm K nL cs e σ pc lv (.ref (K.G.A 102) :: st) := r_get 25 hO inX7 rfl (by decide) ent_X7 (by decide) a_1041 rfl d kk
theorem gX7_248 (hO : Ok K cc RX7 nL rm) (d : decode cc pc = .ok (.getfield 248, 3)) (kk : Cm K nL cs e σ (pc + 3) lv (.int (σ.1 102 12) :: st)) : Cm K nL cs e σ pc lv (.ref (K.G.A 102) :: st) := r_get 12 hO inX7 rfl (by decide) ent_X7 (by decide) a_1029 rfl d kk
theorem gX7_250 (hO : Ok K cc RX7 nL rm) (d : decode cc pc = .ok (.getfield 250, 3)) (kk : Cm K nL cs e σ (pc + 3) lv (.int (σ.1 102 13) :: st)) : Cm K nL cs e σ pc lv (.ref (K.G.A 102) :: st) := r_get 13 hO inX7 rfl (by decide) ent_X7 (by decide) a_1030 rfl d kk
theorem gX7_252 (hO : Ok K cc RX7 nL rm) (d : decode cc pc = .ok (.getfield 252, 3)) (kk : Cm K nL cs e σ (pc + 3) lv (.int (σ.1 102 15) :: st)) : Cm K nL cs e σ pc lv (.ref (K.G.A 102) :: st) := r_get 15 hO inX7 rfl (by decide) ent_X7 (by decide) a_1031 rfl d kk
theorem gX7_305 (hO : Ok K cc RX7 nL rm) (d : decode cc pc = .ok (.getfield 305, 3)) (kk : Cm K nL cs e σ (pc + 3) lv (.int (σ.1 102 37) :: st)) : Cm K nL cs e σ pc lv (.ref (K.G.A 102) :: st) := r_get 37 hO inX7 rfl (by decide) ent_X7 (by decide) a_1033 rfl d kk
theorem gX7_309 (hO : Ok K cc RX7 nL rm) (d : decode cc pc = .ok (.getfield 309, 3)) (kk : Cm K nL cs e σ (pc + 3) lv (.int (σ.1 102 38) :: st)) : Cm K nL cs e σ pc lv (.ref (K.G.A 102) :: st) := r_get 38 hO inX7 rfl (by decide) ent_X7 (by decide) a_1035 rfl d kk
theorem gX7_329 (hO : Ok K cc RX7 nL rm) (d : decode cc pc = .ok (.getfield 329, 3)) (kk : Cm K nL cs e σ (pc + 3) lv (.int (σ.1 102 39) :: st)) : Cm K nL cs e σ pc lv (.ref (K.G.A 102) :: st) := r_get 39 hO inX7 rfl (by decide) ent_X7 (by decide) a_1036 rfl d kk
theorem pX0_9 {x : Int32} (hO : Ok K cc RX0 nL rm) (d : decode cc pc = .ok (.putfield 9, 3)) (kk : Cm K nL cs e (wi σ 10 0 x) (pc + 3) lv st) : Cm K nL cs e σ pc lv (.int x :: .ref (K.G.A 10) :: st) := r_put 0 hO inX0 tyX0 tyX0_ok nmX0 rfl (by decide) ent_X0 (by decide) a_877 rfl (ty := .int) (by decide +kernel) rfl rfl (Nat.le_of_ble_eq_true rfl) (wi_s.trans eK_X0) (fun a ha => wi_o ha) d kk
theorem pX0_16 {x : Int32} (hO : Ok K cc RX0 nL rm) (d : decode cc pc = .ok (.putfield 16, 3)) (kk : Cm K nL cs e (wi σ 10 1 x) (pc + 3) lv st) : Cm K nL cs e σ pc lv (.int x :: .ref (K.G.A 10) :: st) := r_put 1 hO inX0 tyX0 tyX0_ok nmX0 rfl (by decide) ent_X0 (by decide) a_1043 rfl (ty := .int) (by decide +kernel) rfl rfl (Nat.le_of_ble_eq_true rfl) (wi_s.trans eK_X0) (fun a ha => wi_o ha) d kk
theorem pX1_9 {x : Int32} (hO : Ok K cc RX1 nL rm) (d : decode cc pc = .ok (.putfield 9, 3)) (kk : Cm K nL cs e (wi σ 4 0 x) (pc + 3) lv st) : Cm K nL cs e σ pc lv (.int x :: .ref (K.G.A 4) :: st) := r_put 0 hO inX1 tyX1 tyX1_ok nmX1 rfl (by decide) ent_X1 (by decide) a_888 rfl (ty := .int) (by decide +kernel) rfl rfl (Nat.le_of_ble_eq_true rfl) (wi_s.trans eK_X1) (fun a ha => wi_o ha) d kk
theorem pX1_15 {x : Int32} (hO : Ok K cc RX1 nL rm) (d : decode cc pc = .ok (.putfield 15, 3)) (kk : Cm K nL cs e (wi σ 4 1 x) (pc + 3) lv st) : Cm K nL cs e σ pc lv (.int x :: .ref (K.G.A 4) :: st) := r_put 1 hO inX1 tyX1 tyX1_ok nmX1 rfl (by decide) ent_X1 (by decide) a_890 rfl (ty := .int) (by decide +kernel) rfl rfl (Nat.le_of_ble_eq_true rfl) (wi_s.trans eK_X1) (fun a ha => wi_o ha) d kk
theorem pX2_9 {k : Nat} {x : Int32} (hO : Ok K cc RX2 nL rm) (hm : isL k) (d : decode cc pc = .ok (.putfield 9, 3)) (kk : Cm K nL cs e (wi σ k 0 x) (pc + 3) lv st) : Cm K nL cs e σ pc lv (.int x :: .ref (K.G.A k) :: st) := r_put 0 hO inX2 tyX2 tyX2_ok nmX2 rfl (isL_lt hm) (ent_X2 hm) (by decide) a_892 rfl (ty := .int) (by decide +kernel) rfl rfl (Nat.le_of_ble_eq_true rfl) (wi_s.trans (eK_X2 hm)) (fun a ha => wi_o ha) d kk
theorem pX3_9 {k : Nat} {x : Int32} (hO : Ok K cc RX3 nL rm) (hm : isM k) (d : decode cc pc = .ok (.putfield 9, 3)) (kk : Cm K nL cs e (wi σ k 0 x) (pc + 3) lv st) : Cm K nL cs e σ pc lv (.int x :: .ref (K.G.A k) :: st) := r_put 0 hO inX3 tyX3 tyX3_ok nmX3 rfl (isM_lt hm) (ent_X3 hm) (by decide) a_897 rfl (ty := .int) (by decide +kernel) rfl rfl (Nat.le_of_ble_eq_true rfl) (wi_s.trans (eK_X3 hm)) (fun a ha => wi_o ha) d kk
theorem pX3_15 {k : Nat} {x : Int32} (hO : Ok K cc RX3 nL rm) (hm : isM k) (d : decode cc pc = .ok (.putfield 15, 3)) (kk : Cm K nL cs e (wi σ k 1 x) (pc + 3) lv st) : Cm K nL cs e σ pc lv (.int x :: .ref (K.G.A k) :: st) := r_put 1 hO inX3 tyX3 tyX3_ok nmX3 rfl (isM_lt hm) (ent_X3 hm) (by decide) a_882 rfl (ty := .int) (by decide +kernel) rfl rfl (Nat.le_of_ble_eq_true rfl) (wi_s.trans (eK_X3 hm)) (fun a ha => wi_o ha) d kk
theorem pX3_18 {k : Nat} {x : Int32} (hO : Ok K cc RX3 nL rm) (hm : isM k) (d : decode cc pc = .ok (.putfield 18, 3)) (kk : Cm K nL cs e (wi σ k 2 x) (pc + 3) lv st) : Cm K nL cs e σ pc lv (.int x :: .ref (K.G.A k) :: st) := r_put 2 hO inX3 tyX3 tyX3_ok nmX3 rfl (isM_lt hm) (ent_X3 hm) (by decide) a_898 rfl (ty := .int) (by decide +kernel) rfl rfl (Nat.le_of_ble_eq_true rfl) (wi_s.trans (eK_X3 hm)) (fun a ha => wi_o ha) d kk
theorem pX3_21 {k : Nat} {x : Int32} (hO : Ok K cc RX3 nL rm) (hm : isM k) (d : decode cc pc = .ok (.putfield 21, 3)) (kk : Cm K nL cs e (wi σ k 3 x) (pc + 3) lv st) : Cm K nL cs e σ pc lv (.int x :: .ref (K.G.A k) :: st) := r_put 3 hO inX3 tyX3 tyX3_ok nmX3 rfl (isM_lt hm) (ent_X3 hm) (by decide) a_899 rfl (ty := .int) (by decide +kernel) rfl rfl (Nat.le_of_ble_eq_true rfl) (wi_s.trans (eK_X3 hm)) (fun a ha => wi_o ha) d kk
theorem pX3_24 {k : Nat} {x : Int32} (hO : Ok K cc RX3 nL rm) (hm : isM k) (d : decode cc pc = .ok (.putfield 24, 3)) (kk : Cm K nL cs e (wi σ k 4 x) (pc + 3) lv st) : Cm K nL cs e σ pc lv (.int x :: .ref (K.G.A k) :: st) := r_put 4 hO inX3 tyX3 tyX3_ok nmX3 rfl (isM_lt hm) (ent_X3 hm) (by decide) a_900 rfl (ty := .int) (by decide +kernel) rfl rfl (Nat.le_of_ble_eq_true rfl) (wi_s.trans (eK_X3 hm)) (fun a ha => wi_o ha) d kk
theorem pX4_9 {k : Nat} {x : Int32} (hO : Ok K cc RX4 nL rm) (hm : isR k) (d : decode cc pc = .ok (.putfield 9, 3)) (kk : Cm K nL cs e (wi σ k 0 x) (pc + 3) lv st) : Cm K nL cs (gd (isb x) e) σ pc lv (.int x :: .ref (K.G.A k) :: st) := r_gd fun hb => r_put 0 hO inX4 tyX4 tyX4_ok nmX4 rfl (isR_lt hm) (ent_X4 hm) (by decide) a_914 rfl (ty := .boolean) (by decide +kernel) (nar_b hb) (fit_b hb) (Nat.le_of_ble_eq_true rfl) (wi_s.trans (eK_X4 hm)) (fun a ha => wi_o ha) d kk
theorem pX4_15 {k : Nat} {x : Int32} (hO : Ok K cc RX4 nL rm) (hm : isR k) (d : decode cc pc = .ok (.putfield 15, 3)) (kk : Cm K nL cs e (wi σ k 1 x) (pc + 3) lv st) : Cm K nL cs e σ pc lv (.int x :: .ref (K.G.A k) :: st) := r_put 1 hO inX4 tyX4 tyX4_ok nmX4 rfl (isR_lt hm) (ent_X4 hm) (by decide) a_915 rfl (ty := .int) (by decide +kernel) rfl rfl (Nat.le_of_ble_eq_true rfl) (wi_s.trans (eK_X4 hm)) (fun a ha => wi_o ha) d kk
theorem pX4_19 {k : Nat} {x : Int32} (hO : Ok K cc RX4 nL rm) (hm : isR k) (d : decode cc pc = .ok (.putfield 19, 3)) (kk : Cm K nL cs e (wi σ k 2 x) (pc + 3) lv st) : Cm K nL cs e σ pc lv (.int x :: .ref (K.G.A k) :: st) := r_put 2 hO inX4 tyX4 tyX4_ok nmX4 rfl (isR_lt hm) (ent_X4 hm) (by decide) a_916 rfl (ty := .int) (by decide +kernel) rfl rfl (Nat.le_of_ble_eq_true rfl) (wi_s.trans (eK_X4 hm)) (fun a ha => wi_o ha) d kk
theorem pX4_22 {k : Nat} {x : Int32} (hO : Ok K cc RX4 nL rm) (hm : isR k) (d : decode cc pc = .ok (.putfield 22, 3)) (kk : Cm K nL cs e (wi σ k 3 x) (pc + 3) lv st) : Cm K nL cs e σ pc lv (.int x :: .ref (K.G.A k) :: st) := r_put 3 hO inX4 tyX4 tyX4_ok nmX4 rfl (isR_lt hm) (ent_X4 hm) (by decide) a_917 rfl (ty := .int) (by decide +kernel) rfl rfl (Nat.le_of_ble_eq_true rfl) (wi_s.trans (eK_X4 hm)) (fun a ha => wi_o ha) d kk
theorem pX4_25 {k : Nat} {x : Int32} (hO : Ok K cc RX4 nL rm) (hm : isR k) (d : decode cc pc = .ok (.putfield 25, 3)) (kk : Cm K nL cs e (wi σ k 4 x) (pc + 3) lv st) : Cm K nL cs e σ pc lv (.int x :: .ref (K.G.A k) :: st) := r_put 4 hO inX4 tyX4 tyX4_ok nmX4 rfl (isR_lt hm) (ent_X4 hm) (by decide) a_918 rfl (ty := .int) (by decide +kernel) rfl rfl (Nat.le_of_ble_eq_true rfl) (wi_s.trans (eK_X4 hm)) (fun a ha => wi_o ha) d kk
theorem pX4_28 {k : Nat} {x : Int32} (hO : Ok K cc RX4 nL rm) (hm : isR k) (d : decode cc pc = .ok (.putfield 28, 3)) (kk : Cm K nL cs e (wi σ k 5 x) (pc + 3) lv st) : Cm K nL cs e σ pc lv (.int x :: .ref (K.G.A k) :: st) := r_put 5 hO inX4 tyX4 tyX4_ok nmX4 rfl (isR_lt hm) (ent_X4 hm) (by decide) a_919 rfl (ty := .int) (by decide +kernel) rfl rfl (Nat.le_of_ble_eq_true rfl) (wi_s.trans (eK_X4 hm)) (fun a ha => wi_o ha) d kk
theorem pX4_31 {k : Nat} {x : Int32} (hO : Ok K cc RX4 nL rm) (hm : isR k) (d : decode cc pc = .ok (.putfield 31, 3)) (kk : Cm K nL cs e (wi σ k 6 x) (pc + 3) lv st) : Cm K nL cs e σ pc lv (.int x :: .ref (K.G.A k) :: st) := r_put 6 hO inX4 tyX4 tyX4_ok nmX4 rfl (isR_lt hm) (ent_X4 hm) (by decide) a_920 rfl (ty := .int) (by decide +kernel) rfl rfl (Nat.le_of_ble_eq_true rfl) (wi_s.trans (eK_X4 hm)) (fun a ha => wi_o ha) d kk
theorem pX4_34 {k : Nat} {x : Int32} (hO : Ok K cc RX4 nL rm) (hm : isR k) (d : decode cc pc = .ok (.putfield 34, 3)) (kk : Cm K nL cs e (wi σ k 7 x) (pc + 3) lv st) : Cm K nL cs e σ pc lv (.int x :: .ref (K.G.A k) :: st) := r_put 7 hO inX4 tyX4 tyX4_ok nmX4 rfl (isR_lt hm) (ent_X4 hm) (by decide) a_921 rfl (ty := .int) (by decide +kernel) rfl rfl (Nat.le_of_ble_eq_true rfl) (wi_s.trans (eK_X4 hm)) (fun a ha => wi_o ha) d kk
theorem pX4_73 {k : Nat} {x : Int32} (hO : Ok K cc RX4 nL rm) (hm : isL k) (d : decode cc pc = .ok (.putfield 73, 3)) (kk : Cm K nL cs e (wi σ k 0 x) (pc + 3) lv st) : Cm K nL cs e σ pc lv (.int x :: .ref (K.G.A k) :: st) := r_put 0 hO inX2 tyX2 tyX2_ok nmX2 rfl (isL_lt hm) (ent_X2 hm) (by decide) a_1044 rfl (ty := .int) (by decide +kernel) rfl rfl (Nat.le_of_ble_eq_true rfl) (wi_s.trans (eK_X2 hm)) (fun a ha => wi_o ha) d kk
theorem pX5_9 {x : Int32} (hO : Ok K cc RX5 nL rm) (d : decode cc pc = .ok (.putfield 9, 3)) (kk : Cm K nL cs e (wi σ 1 0 x) (pc + 3) lv st) : Cm K nL cs e σ pc lv (.int x :: .ref (K.G.A 1) :: st) := r_put 0 hO inX5 tyX5 tyX5_ok nmX5 rfl (by decide) ent_X5 (by decide) a_934 rfl (ty := .int) (by decide +kernel) rfl rfl (Nat.le_of_ble_eq_true rfl) (wi_s.trans eK_X5) (fun a ha => wi_o ha) d kk
theorem pX5_15 {x : Int32} (hO : Ok K cc RX5 nL rm) (d : decode cc pc = .ok (.putfield 15, 3)) (kk : Cm K nL cs e (wi σ 1 1 x) (pc + 3) lv st) : Cm K nL cs e σ pc lv (.int x :: .ref (K.G.A 1) :: st) := r_put 1 hO inX5 tyX5 tyX5_ok nmX5 rfl (by decide) ent_X5 (by decide) a_1045 rfl (ty := .int) (by decide +kernel) rfl rfl (Nat.le_of_ble_eq_true rfl) (wi_s.trans eK_X5) (fun a ha => wi_o ha) d kk
theorem pX5_18 {x : Int32} (hO : Ok K cc RX5 nL rm) (d : decode cc pc = .ok (.putfield 18, 3)) (kk : Cm K nL cs e (wi σ 1 2 x) (pc + 3) lv st) : Cm K nL cs e σ pc lv (.int x :: .ref (K.G.A 1) :: st) := r_put 2 hO inX5 tyX5 tyX5_ok nmX5 rfl (by decide) ent_X5 (by decide) a_1046 rfl (ty := .int) (by decide +kernel) rfl rfl (Nat.le_of_ble_eq_true rfl) (wi_s.trans eK_X5) (fun a ha => wi_o ha) d kk
theorem pX5_29 {x : Int32} (hO : Ok K cc RX5 nL rm) (d : decode cc pc = .ok (.putfield 29, 3)) (kk : Cm K nL cs e (wi σ 1 5 x) (pc + 3) lv st) : Cm K nL cs e σ pc lv (.int x :: .ref (K.G.A 1) :: st) := r_put 5 hO inX5 tyX5 tyX5_ok nmX5 rfl (by decide) ent_X5 (by decide) a_938 rfl (ty := .int) (by decide +kernel) rfl rfl (Nat.le_of_ble_eq_true rfl) (wi_s.trans eK_X5) (fun a ha => wi_o ha) d kk
theorem pX5_32 {x : Int32} (hO : Ok K cc RX5 nL rm) (d : decode cc pc = .ok (.putfield 32, 3)) (kk : Cm K nL cs e (wi σ 1 6 x) (pc + 3) lv st) : Cm K nL cs e σ pc lv (.int x :: .ref (K.G.A 1) :: st) := r_put 6 hO inX5 tyX5 tyX5_ok nmX5 rfl (by decide) ent_X5 (by decide) a_937 rfl (ty := .int) (by decide +kernel) rfl rfl (Nat.le_of_ble_eq_true rfl) (wi_s.trans eK_X5) (fun a ha => wi_o ha) d kk
theorem pX5_35 {x : Int32} (hO : Ok K cc RX5 nL rm) (d : decode cc pc = .ok (.putfield 35, 3)) (kk : Cm K nL cs e (wi σ 1 7 x) (pc + 3) lv st) : Cm K nL cs e σ pc lv (.int x :: .ref (K.G.A 1) :: st) := r_put 7 hO inX5 tyX5 tyX5_ok nmX5 rfl (by decide) ent_X5 (by decide) a_936 rfl (ty := .int) (by decide +kernel) rfl rfl (Nat.le_of_ble_eq_true rfl) (wi_s.trans eK_X5) (fun a ha => wi_o ha) d kk
theorem pX5_38 {x : Int32} (hO : Ok K cc RX5 nL rm) (d : decode cc pc = .ok (.putfield 38, 3)) (kk : Cm K nL cs e (wi σ 1 8 x) (pc + 3) lv st) : Cm K nL cs e σ pc lv (.int x :: .ref (K.G.A 1) :: st) := r_put 8 hO inX5 tyX5 tyX5_ok nmX5 rfl (by decide) ent_X5 (by decide) a_939 rfl (ty := .int) (by decide +kernel) rfl rfl (Nat.le_of_ble_eq_true rfl) (wi_s.trans eK_X5) (fun a ha => wi_o ha) d kk
theorem pX5_41 {x : Int32} (hO : Ok K cc RX5 nL rm) (d : decode cc pc = .ok (.putfield 41, 3)) (kk : Cm K nL cs e (wi σ 1 9 x) (pc + 3) lv st) : Cm K nL cs e σ pc lv (.int x :: .ref (K.G.A 1) :: st) := r_put 9 hO inX5 tyX5 tyX5_ok nmX5 rfl (by decide) ent_X5 (by decide) a_940 rfl (ty := .int) (by decide +kernel) rfl rfl (Nat.le_of_ble_eq_true rfl) (wi_s.trans eK_X5) (fun a ha => wi_o ha) d kk
theorem pX5_44 {x : Int32} (hO : Ok K cc RX5 nL rm) (d : decode cc pc = .ok (.putfield 44, 3)) (kk : Cm K nL cs e (wi σ 1 10 x) (pc + 3) lv st) : Cm K nL cs e σ pc lv (.int x :: .ref (K.G.A 1) :: st) := r_put 10 hO inX5 tyX5 tyX5_ok nmX5 rfl (by decide) ent_X5 (by decide) a_942 rfl (ty := .int) (by decide +kernel) rfl rfl (Nat.le_of_ble_eq_true rfl) (wi_s.trans eK_X5) (fun a ha => wi_o ha) d kk
theorem pX5_59 {k : Nat} {x : Int32} (hO : Ok K cc RX5 nL rm) (hm : isM k) (d : decode cc pc = .ok (.putfield 59, 3)) (kk : Cm K nL cs e (wi σ k 3 x) (pc + 3) lv st) : Cm K nL cs e σ pc lv (.int x :: .ref (K.G.A k) :: st) := r_put 3 hO inX3 tyX3 tyX3_ok nmX3 rfl (isM_lt hm) (ent_X3 hm) (by decide) a_944 rfl (ty := .int) (by decide +kernel) rfl rfl (Nat.le_of_ble_eq_true rfl) (wi_s.trans (eK_X3 hm)) (fun a ha => wi_o ha) d kk
theorem pX5_92 {k : Nat} {x : Int32} (hO : Ok K cc RX5 nL rm) (hm : isM k) (d : decode cc pc = .ok (.putfield 92, 3)) (kk : Cm K nL cs e (wi σ k 4 x) (pc + 3) lv st) : Cm K nL cs e σ pc lv (.int x :: .ref (K.G.A k) :: st) := r_put 4 hO inX3 tyX3 tyX3_ok nmX3 rfl (isM_lt hm) (ent_X3 hm) (by decide) a_956 rfl (ty := .int) (by decide +kernel) rfl rfl (Nat.le_of_ble_eq_true rfl) (wi_s.trans (eK_X3 hm)) (fun a ha => wi_o ha) d kk
theorem pX5_98 {k : Nat} {x : Int32} (hO : Ok K cc RX5 nL rm) (hm : isM k) (d : decode cc pc = .ok (.putfield 98, 3)) (kk : Cm K nL cs e (wi σ k 0 x) (pc + 3) lv st) : Cm K nL cs e σ pc lv (.int x :: .ref (K.G.A k) :: st) := r_put 0 hO inX3 tyX3 tyX3_ok nmX3 rfl (isM_lt hm) (ent_X3 hm) (by decide) a_941 rfl (ty := .int) (by decide +kernel) rfl rfl (Nat.le_of_ble_eq_true rfl) (wi_s.trans (eK_X3 hm)) (fun a ha => wi_o ha) d kk
theorem pX5_110 {k : Nat} {x : Int32} (hO : Ok K cc RX5 nL rm) (hm : isM k) (d : decode cc pc = .ok (.putfield 110, 3)) (kk : Cm K nL cs e (wi σ k 1 x) (pc + 3) lv st) : Cm K nL cs e σ pc lv (.int x :: .ref (K.G.A k) :: st) := r_put 1 hO inX3 tyX3 tyX3_ok nmX3 rfl (isM_lt hm) (ent_X3 hm) (by decide) a_1047 rfl (ty := .int) (by decide +kernel) rfl rfl (Nat.le_of_ble_eq_true rfl) (wi_s.trans (eK_X3 hm)) (fun a ha => wi_o ha) d kk
theorem pX5_114 {k : Nat} {x : Int32} (hO : Ok K cc RX5 nL rm) (hm : isM k) (d : decode cc pc = .ok (.putfield 114, 3)) (kk : Cm K nL cs e (wi σ k 2 x) (pc + 3) lv st) : Cm K nL cs e σ pc lv (.int x :: .ref (K.G.A k) :: st) := r_put 2 hO inX3 tyX3 tyX3_ok nmX3 rfl (isM_lt hm) (ent_X3 hm) (by decide) a_1048 rfl (ty := .int) (by decide +kernel) rfl rfl (Nat.le_of_ble_eq_true rfl) (wi_s.trans (eK_X3 hm)) (fun a ha => wi_o ha) d kk
theorem pX6_35 {x : Nat} (hO : Ok K cc RX6 nL rm) (d : decode cc pc = .ok (.putfield 35, 3)) (kk : Cm K nL cs e (wr σ 0 3 x) (pc + 3) lv st) : Cm K nL cs e σ pc lv (.ref (K.G.A x) :: .ref (K.G.A 0) :: st) := r_put 3 hO inX6 tyX6 tyX6_ok nmX6 rfl (by decide) ent_X6 (by decide) a_959 rfl (ty := .object "OrderSplit$Market") (by decide +kernel) rfl rfl (Nat.le_of_ble_eq_true rfl) (wr_s.trans eK_X6) (fun a ha => wr_o ha) d kk
theorem pX6_39 {x : Nat} (hO : Ok K cc RX6 nL rm) (d : decode cc pc = .ok (.putfield 39, 3)) (kk : Cm K nL cs e (wr σ 0 4 x) (pc + 3) lv st) : Cm K nL cs e σ pc lv (.ref (K.G.A x) :: .ref (K.G.A 0) :: st) := r_put 4 hO inX6 tyX6 tyX6_ok nmX6 rfl (by decide) ent_X6 (by decide) a_961 rfl (ty := .object "OrderSplit$Market") (by decide +kernel) rfl rfl (Nat.le_of_ble_eq_true rfl) (wr_s.trans eK_X6) (fun a ha => wr_o ha) d kk
theorem pX6_61 {x : Int32} (hO : Ok K cc RX6 nL rm) (d : decode cc pc = .ok (.putfield 61, 3)) (kk : Cm K nL cs e (wi σ 0 10 x) (pc + 3) lv st) : Cm K nL cs (gd (isb x) e) σ pc lv (.int x :: .ref (K.G.A 0) :: st) := r_gd fun hb => r_put 10 hO inX6 tyX6 tyX6_ok nmX6 rfl (by decide) ent_X6 (by decide) a_967 rfl (ty := .boolean) (by decide +kernel) (nar_b hb) (fit_b hb) (Nat.le_of_ble_eq_true rfl) (wi_s.trans eK_X6) (fun a ha => wi_o ha) d kk
theorem pX6_65 {x : Int32} (hO : Ok K cc RX6 nL rm) (d : decode cc pc = .ok (.putfield 65, 3)) (kk : Cm K nL cs e (wi σ 0 11 x) (pc + 3) lv st) : Cm K nL cs (gd (isb x) e) σ pc lv (.int x :: .ref (K.G.A 0) :: st) := r_gd fun hb => r_put 11 hO inX6 tyX6 tyX6_ok nmX6 rfl (by decide) ent_X6 (by decide) a_1001 rfl (ty := .boolean) (by decide +kernel) (nar_b hb) (fit_b hb) (Nat.le_of_ble_eq_true rfl) (wi_s.trans eK_X6) (fun a ha => wi_o ha) d kk
theorem pX6_68 {x : Int32} (hO : Ok K cc RX6 nL rm) (d : decode cc pc = .ok (.putfield 68, 3)) (kk : Cm K nL cs e (wi σ 0 12 x) (pc + 3) lv st) : Cm K nL cs e σ pc lv (.int x :: .ref (K.G.A 0) :: st) := r_put 12 hO inX6 tyX6 tyX6_ok nmX6 rfl (by decide) ent_X6 (by decide) a_965 rfl (ty := .int) (by decide +kernel) rfl rfl (Nat.le_of_ble_eq_true rfl) (wi_s.trans eK_X6) (fun a ha => wi_o ha) d kk
theorem pX6_72 {x : Int32} (hO : Ok K cc RX6 nL rm) (d : decode cc pc = .ok (.putfield 72, 3)) (kk : Cm K nL cs e (wi σ 0 13 x) (pc + 3) lv st) : Cm K nL cs e σ pc lv (.int x :: .ref (K.G.A 0) :: st) := r_put 13 hO inX6 tyX6 tyX6_ok nmX6 rfl (by decide) ent_X6 (by decide) a_964 rfl (ty := .int) (by decide +kernel) rfl rfl (Nat.le_of_ble_eq_true rfl) (wi_s.trans eK_X6) (fun a ha => wi_o ha) d kk
theorem pX6_75 {x : Int32} (hO : Ok K cc RX6 nL rm) (d : decode cc pc = .ok (.putfield 75, 3)) (kk : Cm K nL cs e (wi σ 1 0 x) (pc + 3) lv st) : Cm K nL cs e σ pc lv (.int x :: .ref (K.G.A 1) :: st) := r_put 0 hO inX5 tyX5 tyX5_ok nmX5 rfl (by decide) ent_X5 (by decide) a_958 rfl (ty := .int) (by decide +kernel) rfl rfl (Nat.le_of_ble_eq_true rfl) (wi_s.trans eK_X5) (fun a ha => wi_o ha) d kk
theorem pX6_106 {k : Nat} {x : Int32} (hO : Ok K cc RX6 nL rm) (hm : isM k) (d : decode cc pc = .ok (.putfield 106, 3)) (kk : Cm K nL cs e (wi σ k 0 x) (pc + 3) lv st) : Cm K nL cs e σ pc lv (.int x :: .ref (K.G.A k) :: st) := r_put 0 hO inX3 tyX3 tyX3_ok nmX3 rfl (isM_lt hm) (ent_X3 hm) (by decide) a_968 rfl (ty := .int) (by decide +kernel) rfl rfl (Nat.le_of_ble_eq_true rfl) (wi_s.trans (eK_X3 hm)) (fun a ha => wi_o ha) d kk
theorem pX6_213 {k : Nat} {x : Int32} (hO : Ok K cc RX6 nL rm) (hm : isR k) (d : decode cc pc = .ok (.putfield 213, 3)) (kk : Cm K nL cs e (wi σ k 0 x) (pc + 3) lv st) : Cm K nL cs (gd (isb x) e) σ pc lv (.int x :: .ref (K.G.A k) :: st) := r_gd fun hb => r_put 0 hO inX4 tyX4 tyX4_ok nmX4 rfl (isR_lt hm) (ent_X4 hm) (by decide) a_987 rfl (ty := .boolean) (by decide +kernel) (nar_b hb) (fit_b hb) (Nat.le_of_ble_eq_true rfl) (wi_s.trans (eK_X4 hm)) (fun a ha => wi_o ha) d kk
theorem pX6_275 {k : Nat} {x : Int32} (hO : Ok K cc RX6 nL rm) (hm : isR k) (d : decode cc pc = .ok (.putfield 275, 3)) (kk : Cm K nL cs e (wi σ k 2 x) (pc + 3) lv st) : Cm K nL cs e σ pc lv (.int x :: .ref (K.G.A k) :: st) := r_put 2 hO inX4 tyX4 tyX4_ok nmX4 rfl (isR_lt hm) (ent_X4 hm) (by decide) a_1049 rfl (ty := .int) (by decide +kernel) rfl rfl (Nat.le_of_ble_eq_true rfl) (wi_s.trans (eK_X4 hm)) (fun a ha => wi_o ha) d kk
theorem pX7_11 {x : Int32} (hO : Ok K cc RX7 nL rm) (d : decode cc pc = .ok (.putfield 11, 3)) (kk : Cm K nL cs e (wi σ 102 2 x) (pc + 3) lv st) : Cm K nL cs e σ pc lv (.int x :: .ref (K.G.A 102) :: st) := r_put 2 hO inX7 tyX7 tyX7_ok nmX7 rfl (by decide) ent_X7 (by decide) a_1027 rfl (ty := .int) (by decide +kernel) rfl rfl (Nat.le_of_ble_eq_true rfl) (wi_s.trans eK_X7) (fun a ha => wi_o ha) d kk
theorem pX7_70 {x : Int32} (hO : Ok K cc RX7 nL rm) (d : decode cc pc = .ok (.putfield 70, 3)) (kk : Cm K nL cs e (wi σ 102 0 x) (pc + 3) lv st) : Cm K nL cs e σ pc lv (.int x :: .ref (K.G.A 102) :: st) := r_put 0 hO inX7 tyX7 tyX7_ok nmX7 rfl (by decide) ent_X7 (by decide) a_1050 rfl (ty := .int) (by decide +kernel) rfl rfl (Nat.le_of_ble_eq_true rfl) (wi_s.trans eK_X7) (fun a ha => wi_o ha) d kk
theorem pX7_73 {x : Int32} (hO : Ok K cc RX7 nL rm) (d : decode cc pc = .ok (.putfield 73, 3)) (kk : Cm K nL cs e (wi σ 102 1 x) (pc + 3) lv st) : Cm K nL cs e σ pc lv (.int x :: .ref (K.G.A 102) :: st) := r_put 1 hO inX7 tyX7 tyX7_ok nmX7 rfl (by decide) ent_X7 (by decide) a_1042 rfl (ty := .int) (by decide +kernel) rfl rfl (Nat.le_of_ble_eq_true rfl) (wi_s.trans eK_X7) (fun a ha => wi_o ha) d kk
theorem pX7_81 {x : Int32} (hO : Ok K cc RX7 nL rm) (d : decode cc pc = .ok (.putfield 81, 3)) (kk : Cm K nL cs e (wi σ 102 28 x) (pc + 3) lv st) : Cm K nL cs e σ pc lv (.int x :: .ref (K.G.A 102) :: st) := r_put 28 hO inX7 tyX7 tyX7_ok nmX7 rfl (by decide) ent_X7 (by decide) a_1002 rfl (ty := .int) (by decide +kernel) rfl rfl (Nat.le_of_ble_eq_true rfl) (wi_s.trans eK_X7) (fun a ha => wi_o ha) d kk
theorem pX7_84 {x : Int32} (hO : Ok K cc RX7 nL rm) (d : decode cc pc = .ok (.putfield 84, 3)) (kk : Cm K nL cs e (wi σ 102 33 x) (pc + 3) lv st) : Cm K nL cs e σ pc lv (.int x :: .ref (K.G.A 102) :: st) := r_put 33 hO inX7 tyX7 tyX7_ok nmX7 rfl (by decide) ent_X7 (by decide) a_1008 rfl (ty := .int) (by decide +kernel) rfl rfl (Nat.le_of_ble_eq_true rfl) (wi_s.trans eK_X7) (fun a ha => wi_o ha) d kk
theorem pX7_87 {x : Int32} (hO : Ok K cc RX7 nL rm) (d : decode cc pc = .ok (.putfield 87, 3)) (kk : Cm K nL cs e (wi σ 102 29 x) (pc + 3) lv st) : Cm K nL cs e σ pc lv (.int x :: .ref (K.G.A 102) :: st) := r_put 29 hO inX7 tyX7 tyX7_ok nmX7 rfl (by decide) ent_X7 (by decide) a_1004 rfl (ty := .int) (by decide +kernel) rfl rfl (Nat.le_of_ble_eq_true rfl) (wi_s.trans eK_X7) (fun a ha => wi_o ha) d kk
theorem pX7_93 {x : Int32} (hO : Ok K cc RX7 nL rm) (d : decode cc pc = .ok (.putfield 93, 3)) (kk : Cm K nL cs e (wi σ 102 31 x) (pc + 3) lv st) : Cm K nL cs e σ pc lv (.int x :: .ref (K.G.A 102) :: st) := r_put 31 hO inX7 tyX7 tyX7_ok nmX7 rfl (by decide) ent_X7 (by decide) a_1005 rfl (ty := .int) (by decide +kernel) rfl rfl (Nat.le_of_ble_eq_true rfl) (wi_s.trans eK_X7) (fun a ha => wi_o ha) d kk
theorem pX7_96 {x : Int32} (hO : Ok K cc RX7 nL rm) (d : decode cc pc = .ok (.putfield 96, 3)) (kk : Cm K nL cs e (wi σ 102 30 x) (pc + 3) lv st) : Cm K nL cs e σ pc lv (.int x :: .ref (K.G.A 102) :: st) := r_put 30 hO inX7 tyX7 tyX7_ok nmX7 rfl (by decide) ent_X7 (by decide) a_1009 rfl (ty := .int) (by decide +kernel) rfl rfl (Nat.le_of_ble_eq_true rfl) (wi_s.trans eK_X7) (fun a ha => wi_o ha) d kk
theorem pX7_113 {x : Int64} (hO : Ok K cc RX7 nL rm) (d : decode cc pc = .ok (.putfield 113, 3)) (kk : Cm K nL cs e (wl σ 102 34 x) (pc + 3) lv st) : Cm K nL cs e σ pc lv (.long x :: .ref (K.G.A 102) :: st) := r_put 34 hO inX7 tyX7 tyX7_ok nmX7 rfl (by decide) ent_X7 (by decide) a_1006 rfl (ty := .long) (by decide +kernel) rfl rfl (Nat.le_of_ble_eq_true rfl) (wl_s.trans eK_X7) (fun a ha => wl_o ha) d kk
theorem pX7_117 {x : Int32} (hO : Ok K cc RX7 nL rm) (d : decode cc pc = .ok (.putfield 117, 3)) (kk : Cm K nL cs e (wi σ 102 32 x) (pc + 3) lv st) : Cm K nL cs e σ pc lv (.int x :: .ref (K.G.A 102) :: st) := r_put 32 hO inX7 tyX7 tyX7_ok nmX7 rfl (by decide) ent_X7 (by decide) a_1007 rfl (ty := .int) (by decide +kernel) rfl rfl (Nat.le_of_ble_eq_true rfl) (wi_s.trans eK_X7) (fun a ha => wi_o ha) d kk
theorem pX7_150 {x : Int32} (hO : Ok K cc RX7 nL rm) (d : decode cc pc = .ok (.putfield 150, 3)) (kk : Cm K nL cs e (wi σ 102 19 x) (pc + 3) lv st) : Cm K nL cs e σ pc lv (.int x :: .ref (K.G.A 102) :: st) := r_put 19 hO inX7 tyX7 tyX7_ok nmX7 rfl (by decide) ent_X7 (by decide) a_1010 rfl (ty := .int) (by decide +kernel) rfl rfl (Nat.le_of_ble_eq_true rfl) (wi_s.trans eK_X7) (fun a ha => wi_o ha) d kk
theorem pX7_160 {x : Int32} (hO : Ok K cc RX7 nL rm) (d : decode cc pc = .ok (.putfield 160, 3)) (kk : Cm K nL cs e (wi σ 102 16 x) (pc + 3) lv st) : Cm K nL cs e σ pc lv (.int x :: .ref (K.G.A 102) :: st) := r_put 16 hO inX7 tyX7 tyX7_ok nmX7 rfl (by decide) ent_X7 (by decide) a_1012 rfl (ty := .int) (by decide +kernel) rfl rfl (Nat.le_of_ble_eq_true rfl) (wi_s.trans eK_X7) (fun a ha => wi_o ha) d kk
theorem pX7_163 {x : Int32} (hO : Ok K cc RX7 nL rm) (d : decode cc pc = .ok (.putfield 163, 3)) (kk : Cm K nL cs e (wi σ 102 20 x) (pc + 3) lv st) : Cm K nL cs e σ pc lv (.int x :: .ref (K.G.A 102) :: st) := r_put 20 hO inX7 tyX7 tyX7_ok nmX7 rfl (by decide) ent_X7 (by decide) a_1017 rfl (ty := .int) (by decide +kernel) rfl rfl (Nat.le_of_ble_eq_true rfl) (wi_s.trans eK_X7) (fun a ha => wi_o ha) d kk
theorem pX7_193 {x : Int32} (hO : Ok K cc RX7 nL rm) (d : decode cc pc = .ok (.putfield 193, 3)) (kk : Cm K nL cs e (wi σ 102 17 x) (pc + 3) lv st) : Cm K nL cs e σ pc lv (.int x :: .ref (K.G.A 102) :: st) := r_put 17 hO inX7 tyX7 tyX7_ok nmX7 rfl (by decide) ent_X7 (by decide) a_1022 rfl (ty := .int) (by decide +kernel) rfl rfl (Nat.le_of_ble_eq_true rfl) (wi_s.trans eK_X7) (fun a ha => wi_o ha) d kk
theorem pX7_196 {x : Int32} (hO : Ok K cc RX7 nL rm) (d : decode cc pc = .ok (.putfield 196, 3)) (kk : Cm K nL cs e (wi σ 102 18 x) (pc + 3) lv st) : Cm K nL cs e σ pc lv (.int x :: .ref (K.G.A 102) :: st) := r_put 18 hO inX7 tyX7 tyX7_ok nmX7 rfl (by decide) ent_X7 (by decide) a_1023 rfl (ty := .int) (by decide +kernel) rfl rfl (Nat.le_of_ble_eq_true rfl) (wi_s.trans eK_X7) (fun a ha => wi_o ha) d kk
theorem pX7_226 {x : Int32} (hO : Ok K cc RX7 nL rm) (d : decode cc pc = .ok (.putfield 226, 3)) (kk : Cm K nL cs e (wi σ 102 27 x) (pc + 3) lv st) : Cm K nL cs e σ pc lv (.int x :: .ref (K.G.A 102) :: st) := r_put 27 hO inX7 tyX7 tyX7_ok nmX7 rfl (by decide) ent_X7 (by decide) a_1019 rfl (ty := .int) (by decide +kernel) rfl rfl (Nat.le_of_ble_eq_true rfl) (wi_s.trans eK_X7) (fun a ha => wi_o ha) d kk
theorem pX7_235 {x : Int32} (hO : Ok K cc RX7 nL rm) (d : decode cc pc = .ok (.putfield 235, 3)) (kk : Cm K nL cs e (wi σ 102 14 x) (pc + 3) lv st) : Cm K nL cs e σ pc lv (.int x :: .ref (K.G.A 102) :: st) := r_put 14 hO inX7 tyX7 tyX7_ok nmX7 rfl (by decide) ent_X7 (by decide) a_1026 rfl (ty := .int) (by decide +kernel) rfl rfl (Nat.le_of_ble_eq_true rfl) (wi_s.trans eK_X7) (fun a ha => wi_o ha) d kk
theorem pX7_241 {x : Int32} (hO : Ok K cc RX7 nL rm) (d : decode cc pc = .ok (.putfield 241, 3)) (kk : Cm K nL cs e (wi σ 102 21 x) (pc + 3) lv st) : Cm K nL cs (gd (isb x) e) σ pc lv (.int x :: .ref (K.G.A 102) :: st) := r_gd fun hb => r_put 21 hO inX7 tyX7 tyX7_ok nmX7 rfl (by decide) ent_X7 (by decide) a_1028 rfl (ty := .boolean) (by decide +kernel) (nar_b hb) (fit_b hb) (Nat.le_of_ble_eq_true rfl) (wi_s.trans eK_X7) (fun a ha => wi_o ha) d kk
theorem pX7_245 {x : Int32} (hO : Ok K cc RX7 nL rm) (d : decode cc pc = .ok (.putfield 245, 3)) (kk : Cm K nL cs e (wi σ 102 25 x) (pc + 3) lv st) : Cm K nL cs (gd (isb x) e) σ pc lv (.int x :: .ref (K.G.A 102) :: st) := r_gd fun hb => r_put 25 hO inX7 tyX7 tyX7_ok nmX7 rfl (by decide) ent_X7 (by decide) a_1041 rfl (ty := .boolean) (by decide +kernel) (nar_b hb) (fit_b hb) (Nat.le_of_ble_eq_true rfl) (wi_s.trans eK_X7) (fun a ha => wi_o ha) d kk
theorem pX7_248 {x : Int32} (hO : Ok K cc RX7 nL rm) (d : decode cc pc = .ok (.putfield 248, 3)) (kk : Cm K nL cs e (wi σ 102 12 x) (pc + 3) lv st) : Cm K nL cs e σ pc lv (.int x :: .ref (K.G.A 102) :: st) := r_put 12 hO inX7 tyX7 tyX7_ok nmX7 rfl (by decide) ent_X7 (by decide) a_1029 rfl (ty := .int) (by decide +kernel) rfl rfl (Nat.le_of_ble_eq_true rfl) (wi_s.trans eK_X7) (fun a ha => wi_o ha) d kk
theorem pX7_250 {x : Int32} (hO : Ok K cc RX7 nL rm) (d : decode cc pc = .ok (.putfield 250, 3)) (kk : Cm K nL cs e (wi σ 102 13 x) (pc + 3) lv st) : Cm K nL cs e σ pc lv (.int x :: .ref (K.G.A 102) :: st) := r_put 13 hO inX7 tyX7 tyX7_ok nmX7 rfl (by decide) ent_X7 (by decide) a_1030 rfl (ty := .int) (by decide +kernel) rfl rfl (Nat.le_of_ble_eq_true rfl) (wi_s.trans eK_X7) (fun a ha => wi_o ha) d kk
theorem pX7_252 {x : Int32} (hO : Ok K cc RX7 nL rm) (d : decode cc pc = .ok (.putfield 252, 3)) (kk : Cm K nL cs e (wi σ 102 15 x) (pc + 3) lv st) : Cm K nL cs e σ pc lv (.int x :: .ref (K.G.A 102) :: st) := r_put 15 hO inX7 tyX7 tyX7_ok nmX7 rfl (by decide) ent_X7 (by decide) a_1031 rfl (ty := .int) (by decide +kernel) rfl rfl (Nat.le_of_ble_eq_true rfl) (wi_s.trans eK_X7) (fun a ha => wi_o ha) d kk
theorem pX7_305 {x : Int32} (hO : Ok K cc RX7 nL rm) (d : decode cc pc = .ok (.putfield 305, 3)) (kk : Cm K nL cs e (wi σ 102 37 x) (pc + 3) lv st) : Cm K nL cs e σ pc lv (.int x :: .ref (K.G.A 102) :: st) := r_put 37 hO inX7 tyX7 tyX7_ok nmX7 rfl (by decide) ent_X7 (by decide) a_1033 rfl (ty := .int) (by decide +kernel) rfl rfl (Nat.le_of_ble_eq_true rfl) (wi_s.trans eK_X7) (fun a ha => wi_o ha) d kk
theorem pX7_309 {x : Int32} (hO : Ok K cc RX7 nL rm) (d : decode cc pc = .ok (.putfield 309, 3)) (kk : Cm K nL cs e (wi σ 102 38 x) (pc + 3) lv st) : Cm K nL cs e σ pc lv (.int x :: .ref (K.G.A 102) :: st) := r_put 38 hO inX7 tyX7 tyX7_ok nmX7 rfl (by decide) ent_X7 (by decide) a_1035 rfl (ty := .int) (by decide +kernel) rfl rfl (Nat.le_of_ble_eq_true rfl) (wi_s.trans eK_X7) (fun a ha => wi_o ha) d kk
theorem pX7_329 {x : Int32} (hO : Ok K cc RX7 nL rm) (d : decode cc pc = .ok (.putfield 329, 3)) (kk : Cm K nL cs e (wi σ 102 39 x) (pc + 3) lv st) : Cm K nL cs e σ pc lv (.int x :: .ref (K.G.A 102) :: st) := r_put 39 hO inX7 tyX7 tyX7_ok nmX7 rfl (by decide) ent_X7 (by decide) a_1036 rfl (ty := .int) (by decide +kernel) rfl rfl (Nat.le_of_ble_eq_true rfl) (wi_s.trans eK_X7) (fun a ha => wi_o ha) d kk
end FIELDS
theorem bi_m20 : (Int8.ofInt (-20)).toInt32 = (-20 : Int32) := by decide
theorem bi_m9 : (Int8.ofInt (-9)).toInt32 = (-9 : Int32) := by decide
theorem bi_m2 : (Int8.ofInt (-2)).toInt32 = (-2 : Int32) := by decide
theorem bi_6 : (Int8.ofInt (6)).toInt32 = (6 : Int32) := by decide
theorem bi_7 : (Int8.ofInt (7)).toInt32 = (7 : Int32) := by decide
theorem bi_8 : (Int8.ofInt (8)).toInt32 = (8 : Int32) := by decide
theorem bi_9 : (Int8.ofInt (9)).toInt32 = (9 : Int32) := by decide
theorem bi_10 : (Int8.ofInt (10)).toInt32 = (10 : Int32) := by decide
theorem bi_12 : (Int8.ofInt (12)).toInt32 = (12 : Int32) := by decide
theorem bi_16 : (Int8.ofInt (16)).toInt32 = (16 : Int32) := by decide
theorem bi_20 : (Int8.ofInt (20)).toInt32 = (20 : Int32) := by decide
theorem bi_24 : (Int8.ofInt (24)).toInt32 = (24 : Int32) := by decide
theorem bi_25 : (Int8.ofInt (25)).toInt32 = (25 : Int32) := by decide
theorem bi_27 : (Int8.ofInt (27)).toInt32 = (27 : Int32) := by decide
theorem bi_30 : (Int8.ofInt (30)).toInt32 = (30 : Int32) := by decide
theorem bi_32 : (Int8.ofInt (32)).toInt32 = (32 : Int32) := by decide
theorem bi_35 : (Int8.ofInt (35)).toInt32 = (35 : Int32) := by decide
theorem bi_36 : (Int8.ofInt (36)).toInt32 = (36 : Int32) := by decide
theorem bi_37 : (Int8.ofInt (37)).toInt32 = (37 : Int32) := by decide
theorem bi_38 : (Int8.ofInt (38)).toInt32 = (38 : Int32) := by decide
theorem bi_39 : (Int8.ofInt (39)).toInt32 = (39 : Int32) := by decide
theorem bi_40 : (Int8.ofInt (40)).toInt32 = (40 : Int32) := by decide
theorem bi_41 : (Int8.ofInt (41)).toInt32 = (41 : Int32) := by decide
theorem bi_42 : (Int8.ofInt (42)).toInt32 = (42 : Int32) := by decide
theorem bi_43 : (Int8.ofInt (43)).toInt32 = (43 : Int32) := by decide
theorem bi_45 : (Int8.ofInt (45)).toInt32 = (45 : Int32) := by decide
theorem bi_48 : (Int8.ofInt (48)).toInt32 = (48 : Int32) := by decide
theorem bi_57 : (Int8.ofInt (57)).toInt32 = (57 : Int32) := by decide
theorem bi_59 : (Int8.ofInt (59)).toInt32 = (59 : Int32) := by decide
theorem bi_88 : (Int8.ofInt (88)).toInt32 = (88 : Int32) := by decide
theorem bi_89 : (Int8.ofInt (89)).toInt32 = (89 : Int32) := by decide
theorem bi_97 : (Int8.ofInt (97)).toInt32 = (97 : Int32) := by decide
theorem bi_99 : (Int8.ofInt (99)).toInt32 = (99 : Int32) := by decide
theorem bi_120 : (Int8.ofInt (120)).toInt32 = (120 : Int32) := by decide
theorem bi_121 : (Int8.ofInt (121)).toInt32 = (121 : Int32) := by decide
theorem bi_122 : (Int8.ofInt (122)).toInt32 = (122 : Int32) := by decide
theorem ci_m8 : Int32.ofInt (-8) = (-8 : Int32) := by decide
theorem ci_m1 : Int32.ofInt (-1) = (-1 : Int32) := by decide
theorem ci_0 : Int32.ofInt (0) = (0 : Int32) := by decide
theorem ci_1 : Int32.ofInt (1) = (1 : Int32) := by decide
theorem ci_2 : Int32.ofInt (2) = (2 : Int32) := by decide
theorem ci_3 : Int32.ofInt (3) = (3 : Int32) := by decide
theorem ci_4 : Int32.ofInt (4) = (4 : Int32) := by decide
theorem ci_5 : Int32.ofInt (5) = (5 : Int32) := by decide
theorem si_179 : (Int16.ofInt (179)).toInt32 = (179 : Int32) := by decide
theorem si_200 : (Int16.ofInt (200)).toInt32 = (200 : Int32) := by decide
theorem si_255 : (Int16.ofInt (255)).toInt32 = (255 : Int32) := by decide
theorem si_300 : (Int16.ofInt (300)).toInt32 = (300 : Int32) := by decide
theorem si_400 : (Int16.ofInt (400)).toInt32 = (400 : Int32) := by decide
theorem si_605 : (Int16.ofInt (605)).toInt32 = (605 : Int32) := by decide
theorem si_726 : (Int16.ofInt (726)).toInt32 = (726 : Int32) := by decide
theorem si_880 : (Int16.ofInt (880)).toInt32 = (880 : Int32) := by decide
theorem si_900 : (Int16.ofInt (900)).toInt32 = (900 : Int32) := by decide
theorem si_999 : (Int16.ofInt (999)).toInt32 = (999 : Int32) := by decide
theorem si_1019 : (Int16.ofInt (1019)).toInt32 = (1019 : Int32) := by decide
theorem t_X5_66 : (RX5, 66, 0) ∈ txR := by decide +kernel
theorem t_X5_75 : (RX5, 75, 1) ∈ txR := by decide +kernel
theorem t_X5_85 : (RX5, 85, 2) ∈ txR := by decide +kernel
theorem t_X5_90 : (RX5, 90, 3) ∈ txR := by decide +kernel
theorem t_X5_108 : (RX5, 108, 4) ∈ txR := by decide +kernel
theorem t_X5_112 : (RX5, 112, 5) ∈ txR := by decide +kernel
theorem t_X5_130 : (RX5, 130, 9) ∈ txR := by decide +kernel
theorem t_X5_141 : (RX5, 141, 11) ∈ txR := by decide +kernel
theorem t_X5_146 : (RX5, 146, 12) ∈ txR := by decide +kernel
theorem t_X5_175 : (RX5, 175, 6) ∈ txR := by decide +kernel
theorem t_X5_177 : (RX5, 177, 7) ∈ txR := by decide +kernel
theorem t_X5_179 : (RX5, 179, 8) ∈ txR := by decide +kernel
theorem t_X5_181 : (RX5, 181, 10) ∈ txR := by decide +kernel
theorem t_X7_144 : (RX7, 144, 0) ∈ txR := by decide +kernel
theorem t_X7_146 : (RX7, 146, 1) ∈ txR := by decide +kernel
theorem t_X7_147 : (RX7, 147, 2) ∈ txR := by decide +kernel
theorem t_X7_149 : (RX7, 149, 3) ∈ txR := by decide +kernel
theorem t_X7_185 : (RX7, 185, 4) ∈ txR := by decide +kernel
theorem t_X7_191 : (RX7, 191, 5) ∈ txR := by decide +kernel
theorem t_X7_199 : (RX7, 199, 6) ∈ txR := by decide +kernel
theorem t_X7_201 : (RX7, 201, 7) ∈ txR := by decide +kernel
theorem t_X7_203 : (RX7, 203, 8) ∈ txR := by decide +kernel
theorem t_X7_205 : (RX7, 205, 10) ∈ txR := by decide +kernel
theorem t_X7_214 : (RX7, 214, 9) ∈ txR := by decide +kernel
theorem t_X7_219 : (RX7, 219, 11) ∈ txR := by decide +kernel
theorem t_X7_221 : (RX7, 221, 12) ∈ txR := by decide +kernel
abbrev rm_X6_slot : Room := { frames := 0, cells := 0, slots := 0, locals := 0 }
abbrev rm_X3_leastUnitFee : Room := { frames := 0, cells := 0, slots := 0, locals := 0 }
abbrev rm_X0_counts : Room := { frames := 1, cells := 0, slots := 0, locals := 21 }
abbrev rm_X0_nextMarginal : Room := { frames := 2, cells := 0, slots := 0, locals := 43 }
abbrev rm_X0_unitsAtMarginal : Room := { frames := 2, cells := 0, slots := 0, locals := 43 }
abbrev rm_X0_measure : Room := { frames := 3, cells := 0, slots := 0, locals := 68 }
abbrev rm_X3_unitsUpTo : Room := { frames := 0, cells := 0, slots := 0, locals := 0 }
abbrev rm_X3_lotOf : Room := { frames := 0, cells := 0, slots := 0, locals := 0 }
abbrev rm_X3_wholeLots : Room := { frames := 1, cells := 0, slots := 0, locals := 25 }
abbrev rm_X3_chargeOf : Room := { frames := 0, cells := 0, slots := 0, locals := 0 }
abbrev rm_X3_costOf : Room := { frames := 1, cells := 0, slots := 0, locals := 23 }
abbrev rm_X1_prepare : Room := { frames := 2, cells := 0, slots := 0, locals := 50 }
abbrev rm_X1_leastCostFrom : Room := { frames := 0, cells := 0, slots := 0, locals := 0 }
abbrev rm_X1_mostUnits : Room := { frames := 0, cells := 0, slots := 0, locals := 0 }
abbrev rm_X1_mostAtLeastCost : Room := { frames := 0, cells := 0, slots := 0, locals := 0 }
abbrev rm_X1_deal : Room := { frames := 1, cells := 0, slots := 0, locals := 27 }
abbrev rm_X1_choose : Room := { frames := 3, cells := 0, slots := 0, locals := 77 }
abbrev rm_X1_nextLotCost : Room := { frames := 0, cells := 0, slots := 0, locals := 0 }
abbrev rm_X1_cheapestNextLot : Room := { frames := 1, cells := 0, slots := 0, locals := 23 }
abbrev rm_X1_chooseGreedily : Room := { frames := 3, cells := 0, slots := 0, locals := 77 }
abbrev rm_X1_venuesUsed : Room := { frames := 0, cells := 0, slots := 0, locals := 0 }
abbrev rm_X1_fewestVenues : Room := { frames := 2, cells := 0, slots := 0, locals := 49 }
abbrev rm_X2_copyFrom : Room := { frames := 1, cells := 0, slots := 0, locals := 26 }
abbrev rm_X2_find : Room := { frames := 0, cells := 0, slots := 0, locals := 0 }
abbrev rm_X2_unitsAt : Room := { frames := 1, cells := 0, slots := 0, locals := 23 }
abbrev rm_X2_note : Room := { frames := 1, cells := 0, slots := 0, locals := 23 }
abbrev rm_X3_clear : Room := { frames := 0, cells := 0, slots := 0, locals := 0 }
abbrev rm_X3_copyFrom : Room := { frames := 1, cells := 0, slots := 0, locals := 26 }
abbrev rm_X3_depthOf : Room := { frames := 1, cells := 0, slots := 0, locals := 25 }
abbrev rm_X3_hasLotWithin : Room := { frames := 2, cells := 0, slots := 0, locals := 49 }
abbrev rm_X3_canBeHad : Room := { frames := 2, cells := 0, slots := 0, locals := 46 }
abbrev rm_X3_capOf : Room := { frames := 0, cells := 0, slots := 0, locals := 0 }
abbrev rm_X3_planUnits : Room := { frames := 0, cells := 0, slots := 0, locals := 0 }
abbrev rm_X3_planCost : Room := { frames := 2, cells := 0, slots := 0, locals := 50 }
abbrev rm_X3_canBePlanned : Room := { frames := 3, cells := 0, slots := 0, locals := 68 }
abbrev rm_X3_planStands : Room := { frames := 2, cells := 0, slots := 0, locals := 46 }
abbrev rm_X3_leastCommonMultiple : Room := { frames := 0, cells := 0, slots := 0, locals := 0 }
abbrev rm_X3_moveCost : Room := { frames := 2, cells := 0, slots := 0, locals := 50 }
abbrev rm_X4_drop : Room := { frames := 0, cells := 0, slots := 0, locals := 0 }
abbrev rm_X4_clear : Room := { frames := 1, cells := 0, slots := 0, locals := 21 }
abbrev rm_X4_copyFrom : Room := { frames := 2, cells := 0, slots := 0, locals := 47 }
abbrev rm_X4_nothingUnderWay : Room := { frames := 0, cells := 0, slots := 0, locals := 0 }
abbrev rm_X4_isOver : Room := { frames := 3, cells := 0, slots := 0, locals := 71 }
abbrev rm_X4_send : Room := { frames := 2, cells := 0, slots := 0, locals := 50 }
abbrev rm_X4_startRound : Room := { frames := 4, cells := 0, slots := 0, locals := 103 }
abbrev rm_X4_buy : Room := { frames := 2, cells := 0, slots := 0, locals := 47 }
abbrev rm_J9_floorDiv_7cf53 : Room := { frames := 0, cells := 0, slots := 0, locals := 0 }
abbrev rm_X4_finish : Room := { frames := 1, cells := 0, slots := 0, locals := 23 }
abbrev rm_X4_visit : Room := { frames := 3, cells := 0, slots := 0, locals := 75 }
abbrev rm_X4_tick : Room := { frames := 5, cells := 0, slots := 0, locals := 129 }
abbrev rm_X4_canBeCalled : Room := { frames := 0, cells := 0, slots := 0, locals := 0 }
abbrev rm_X4_tell : Room := { frames := 4, cells := 0, slots := 0, locals := 92 }
abbrev rm_X4_tellPart : Room := { frames := 0, cells := 0, slots := 0, locals := 0 }
abbrev rm_X5_put : Room := { frames := 0, cells := 0, slots := 0, locals := 0 }
abbrev rm_X5_sortOf : Room := { frames := 0, cells := 0, slots := 0, locals := 0 }
abbrev rm_X5_stepOver : Room := { frames := 0, cells := 0, slots := 0, locals := 0 }
abbrev rm_X5_step : Room := { frames := 1, cells := 0, slots := 0, locals := 25 }
abbrev rm_X5_isWord : Room := { frames := 5, cells := 0, slots := 0, locals := 106 }
abbrev rm_X5_fails : Room := { frames := 0, cells := 0, slots := 0, locals := 0 }
abbrev rm_X5_takesWord : Room := { frames := 6, cells := 0, slots := 0, locals := 128 }
abbrev rm_X5_takesWhole : Room := { frames := 2, cells := 0, slots := 0, locals := 45 }
abbrev rm_X5_readOrder : Room := { frames := 7, cells := 0, slots := 0, locals := 149 }
abbrev rm_X5_opens : Room := { frames := 2, cells := 0, slots := 0, locals := 45 }
abbrev rm_X5_isName : Room := { frames := 6, cells := 0, slots := 0, locals := 128 }
abbrev rm_X5_venueNamed : Room := { frames := 0, cells := 0, slots := 0, locals := 0 }
abbrev rm_X5_takesKind : Room := { frames := 6, cells := 0, slots := 0, locals := 128 }
abbrev rm_X5_takesFee : Room := { frames := 7, cells := 0, slots := 0, locals := 149 }
abbrev rm_X5_readVenue : Room := { frames := 8, cells := 0, slots := 0, locals := 170 }
abbrev rm_X5_findsVenue : Room := { frames := 7, cells := 0, slots := 0, locals := 148 }
abbrev rm_X5_readLevel : Room := { frames := 8, cells := 0, slots := 0, locals := 169 }
abbrev rm_X5_readEvent : Room := { frames := 8, cells := 0, slots := 0, locals := 169 }
abbrev rm_X5_readLine : Room := { frames := 9, cells := 0, slots := 0, locals := 193 }
abbrev rm_X5_readInto : Room := { frames := 10, cells := 0, slots := 0, locals := 214 }
abbrev rm_X6_feed : Room := { frames := 1, cells := 0, slots := 0, locals := 22 }
abbrev rm_X6_split : Room := { frames := 11, cells := 0, slots := 0, locals := 237 }
abbrev rm_X6_fault : Room := { frames := 0, cells := 0, slots := 0, locals := 0 }
abbrev rm_X6_where : Room := { frames := 0, cells := 0, slots := 0, locals := 0 }
abbrev rm_X6_within : Room := { frames := 0, cells := 0, slots := 0, locals := 0 }
abbrev rm_X6_granted : Room := { frames := 0, cells := 0, slots := 0, locals := 0 }
abbrev rm_X6_about : Room := { frames := 1, cells := 0, slots := 0, locals := 23 }
abbrev rm_X6_isVenue : Room := { frames := 0, cells := 0, slots := 0, locals := 0 }
abbrev rm_X6_venue : Room := { frames := 2, cells := 0, slots := 0, locals := 46 }
abbrev rm_X6_isLevel : Room := { frames := 1, cells := 0, slots := 0, locals := 21 }
abbrev rm_X6_level : Room := { frames := 2, cells := 0, slots := 0, locals := 43 }
abbrev rm_X6_charge : Room := { frames := 1, cells := 0, slots := 0, locals := 23 }
abbrev rm_X6_cost : Room := { frames := 3, cells := 0, slots := 0, locals := 68 }
abbrev rm_X6_under : Room := { frames := 1, cells := 0, slots := 0, locals := 25 }
abbrev rm_X6_grantedAmount : Room := { frames := 1, cells := 0, slots := 0, locals := 23 }
abbrev rm_X6_units : Room := { frames := 4, cells := 0, slots := 0, locals := 103 }
abbrev rm_X6_best : Room := { frames := 4, cells := 0, slots := 0, locals := 103 }
abbrev rm_X6_share : Room := { frames := 4, cells := 0, slots := 0, locals := 103 }
abbrev rm_X6_bound : Room := { frames := 4, cells := 0, slots := 0, locals := 96 }
abbrev rm_X6_margin : Room := { frames := 4, cells := 0, slots := 0, locals := 96 }
abbrev rm_X6_gap : Room := { frames := 4, cells := 0, slots := 0, locals := 103 }
abbrev rm_X6_greedy : Room := { frames := 4, cells := 0, slots := 0, locals := 101 }
abbrev rm_X6_worth : Room := { frames := 4, cells := 0, slots := 0, locals := 103 }
abbrev rm_X6_fewest : Room := { frames := 3, cells := 0, slots := 0, locals := 76 }
abbrev rm_X6_plan : Room := { frames := 4, cells := 0, slots := 0, locals := 90 }
abbrev rm_X6_planned : Room := { frames := 4, cells := 0, slots := 0, locals := 103 }
abbrev rm_X6_move : Room := { frames := 3, cells := 0, slots := 0, locals := 73 }
abbrev rm_X6_now : Room := { frames := 5, cells := 0, slots := 0, locals := 114 }
abbrev rm_X6_part : Room := { frames := 1, cells := 0, slots := 0, locals := 23 }
abbrev rm_X6_entries : Room := { frames := 1, cells := 0, slots := 0, locals := 23 }
abbrev rm_X6_entry : Room := { frames := 1, cells := 0, slots := 0, locals := 23 }
abbrev rm_X6_bought : Room := { frames := 2, cells := 0, slots := 0, locals := 46 }
abbrev rm_X6_will : Room := { frames := 6, cells := 0, slots := 0, locals := 152 }
abbrev rm_X6_adopt : Room := { frames := 4, cells := 0, slots := 0, locals := 103 }
abbrev rm_X6_fee : Room := { frames := 1, cells := 0, slots := 0, locals := 23 }
abbrev rm_X6_resize : Room := { frames := 2, cells := 0, slots := 0, locals := 43 }
abbrev rm_X6_order : Room := { frames := 1, cells := 0, slots := 0, locals := 23 }
abbrev rm_X6_begin : Room := { frames := 5, cells := 0, slots := 0, locals := 129 }
abbrev rm_X6_ticks : Room := { frames := 6, cells := 0, slots := 0, locals := 152 }
abbrev rm_X6_call : Room := { frames := 1, cells := 0, slots := 0, locals := 23 }
abbrev rm_X6_keep : Room := { frames := 3, cells := 0, slots := 0, locals := 68 }
abbrev rm_X6_back : Room := { frames := 3, cells := 0, slots := 0, locals := 68 }
abbrev rm_X6_size : Room := { frames := 0, cells := 0, slots := 0, locals := 0 }
abbrev rm_X6_trouble : Room := { frames := 0, cells := 0, slots := 0, locals := 0 }
abbrev rm_X7_refused : Room := { frames := 0, cells := 0, slots := 0, locals := 0 }
abbrev rm_X7_refusedLow : Room := { frames := 1, cells := 0, slots := 0, locals := 21 }
abbrev rm_X7_good : Room := { frames := 0, cells := 0, slots := 0, locals := 0 }
abbrev rm_X7_in : Room := { frames := 0, cells := 0, slots := 0, locals := 0 }
abbrev rm_X7_lower : Room := { frames := 0, cells := 0, slots := 0, locals := 0 }
abbrev rm_X7_copies : Room := { frames := 0, cells := 0, slots := 0, locals := 0 }
abbrev rm_X7_byteAt : Room := { frames := 0, cells := 0, slots := 0, locals := 0 }
abbrev rm_X7_nextWord : Room := { frames := 1, cells := 0, slots := 0, locals := 22 }
abbrev rm_X7_nextWhole : Room := { frames := 1, cells := 0, slots := 0, locals := 22 }
abbrev rm_X7_nextSign : Room := { frames := 0, cells := 0, slots := 0, locals := 0 }
abbrev rm_X7_next : Room := { frames := 2, cells := 0, slots := 0, locals := 42 }
abbrev rm_X7_flaw : Room := { frames := 0, cells := 0, slots := 0, locals := 0 }
abbrev rm_X7_isSign : Room := { frames := 0, cells := 0, slots := 0, locals := 0 }
abbrev rm_X7_isWord : Room := { frames := 5, cells := 0, slots := 0, locals := 106 }
abbrev rm_X7_readWhole : Room := { frames := 3, cells := 0, slots := 0, locals := 63 }
abbrev rm_X7_readPart : Room := { frames := 6, cells := 0, slots := 0, locals := 130 }
abbrev rm_X7_isName : Room := { frames := 6, cells := 0, slots := 0, locals := 130 }
abbrev rm_X7_venueBy : Room := { frames := 0, cells := 0, slots := 0, locals := 0 }
abbrev rm_X7_knownVenue : Room := { frames := 7, cells := 0, slots := 0, locals := 150 }
abbrev rm_X7_readOrderLine : Room := { frames := 7, cells := 0, slots := 0, locals := 153 }
abbrev rm_X7_begins : Room := { frames := 3, cells := 0, slots := 0, locals := 63 }
abbrev rm_X7_readKind : Room := { frames := 6, cells := 0, slots := 0, locals := 130 }
abbrev rm_X7_readFeeOf : Room := { frames := 6, cells := 0, slots := 0, locals := 130 }
abbrev rm_X7_readVenueLine : Room := { frames := 7, cells := 0, slots := 0, locals := 153 }
abbrev rm_X7_readLevelLine : Room := { frames := 8, cells := 0, slots := 0, locals := 171 }
abbrev rm_X7_readEventLine : Room := { frames := 8, cells := 0, slots := 0, locals := 171 }
abbrev rm_X7_readLine : Room := { frames := 9, cells := 0, slots := 0, locals := 196 }
abbrev rm_X7_readAll : Room := { frames := 10, cells := 0, slots := 0, locals := 216 }
abbrev rm_X7_feed : Room := { frames := 0, cells := 0, slots := 0, locals := 0 }
abbrev rm_X7_told : Room := { frames := 0, cells := 0, slots := 0, locals := 0 }
abbrev rm_X7_levels : Room := { frames := 1, cells := 0, slots := 0, locals := 22 }
abbrev rm_X7_partAt : Room := { frames := 0, cells := 0, slots := 0, locals := 0 }
abbrev rm_X7_clearsPart : Room := { frames := 1, cells := 0, slots := 0, locals := 20 }
abbrev rm_X7_takesOver : Room := { frames := 2, cells := 0, slots := 0, locals := 43 }
abbrev rm_X7_split : Room := { frames := 11, cells := 0, slots := 0, locals := 236 }
abbrev rm_X7_fault : Room := { frames := 0, cells := 0, slots := 0, locals := 0 }
abbrev rm_X7_where : Room := { frames := 0, cells := 0, slots := 0, locals := 0 }
abbrev rm_X7_about : Room := { frames := 1, cells := 0, slots := 0, locals := 21 }
abbrev rm_X7_isVenue : Room := { frames := 1, cells := 0, slots := 0, locals := 22 }
abbrev rm_X7_lot : Room := { frames := 1, cells := 0, slots := 0, locals := 22 }
abbrev rm_X7_priceOf : Room := { frames := 0, cells := 0, slots := 0, locals := 0 }
abbrev rm_X7_sizeOf : Room := { frames := 0, cells := 0, slots := 0, locals := 0 }
abbrev rm_X7_unitsTo : Room := { frames := 2, cells := 0, slots := 0, locals := 43 }
abbrev rm_X7_depth : Room := { frames := 3, cells := 0, slots := 0, locals := 67 }
abbrev rm_X7_chargeOf : Room := { frames := 1, cells := 0, slots := 0, locals := 22 }
abbrev rm_X7_pricesOf : Room := { frames := 2, cells := 0, slots := 0, locals := 43 }
abbrev rm_X7_costOf : Room := { frames := 3, cells := 0, slots := 0, locals := 69 }
abbrev rm_X7_capOf : Room := { frames := 2, cells := 0, slots := 0, locals := 43 }
abbrev rm_X7_venue : Room := { frames := 4, cells := 0, slots := 0, locals := 88 }
abbrev rm_X7_level : Room := { frames := 2, cells := 0, slots := 0, locals := 43 }
abbrev rm_X7_charge : Room := { frames := 2, cells := 0, slots := 0, locals := 46 }
abbrev rm_X7_canHave : Room := { frames := 4, cells := 0, slots := 0, locals := 88 }
abbrev rm_X7_cost : Room := { frames := 5, cells := 0, slots := 0, locals := 110 }
abbrev rm_X7_under : Room := { frames := 3, cells := 0, slots := 0, locals := 67 }
abbrev rm_X7_mostAt : Room := { frames := 4, cells := 0, slots := 0, locals := 88 }
abbrev rm_X7_leastFrom : Room := { frames := 5, cells := 0, slots := 0, locals := 112 }
abbrev rm_X7_laysShares : Room := { frames := 5, cells := 0, slots := 0, locals := 112 }
abbrev rm_X7_laysBest : Room := { frames := 6, cells := 0, slots := 0, locals := 139 }
abbrev rm_X7_refusesQ : Room := { frames := 1, cells := 0, slots := 0, locals := 22 }
abbrev rm_X7_units : Room := { frames := 7, cells := 0, slots := 0, locals := 163 }
abbrev rm_X7_best : Room := { frames := 7, cells := 0, slots := 0, locals := 163 }
abbrev rm_X7_share : Room := { frames := 7, cells := 0, slots := 0, locals := 163 }
abbrev rm_X7_worthAt : Room := { frames := 1, cells := 0, slots := 0, locals := 22 }
abbrev rm_X7_unitsWorth : Room := { frames := 2, cells := 0, slots := 0, locals := 46 }
abbrev rm_X7_boundOf : Room := { frames := 3, cells := 0, slots := 0, locals := 70 }
abbrev rm_X7_bound : Room := { frames := 4, cells := 0, slots := 0, locals := 96 }
abbrev rm_X7_margin : Room := { frames := 4, cells := 0, slots := 0, locals := 96 }
abbrev rm_X7_gap : Room := { frames := 7, cells := 0, slots := 0, locals := 163 }
abbrev rm_X7_nextCost : Room := { frames := 4, cells := 0, slots := 0, locals := 91 }
abbrev rm_X7_nextGreedy : Room := { frames := 5, cells := 0, slots := 0, locals := 112 }
abbrev rm_X7_greedy : Room := { frames := 6, cells := 0, slots := 0, locals := 135 }
abbrev rm_X7_worth : Room := { frames := 7, cells := 0, slots := 0, locals := 163 }
abbrev rm_X7_mostOf : Room := { frames := 4, cells := 0, slots := 0, locals := 88 }
abbrev rm_X7_fewest : Room := { frames := 5, cells := 0, slots := 0, locals := 113 }
abbrev rm_X7_planUnits : Room := { frames := 0, cells := 0, slots := 0, locals := 0 }
abbrev rm_X7_canHavePlan : Room := { frames := 4, cells := 0, slots := 0, locals := 88 }
abbrev rm_X7_planCost : Room := { frames := 4, cells := 0, slots := 0, locals := 91 }
abbrev rm_X7_plan : Room := { frames := 5, cells := 0, slots := 0, locals := 110 }
abbrev rm_X7_planned : Room := { frames := 7, cells := 0, slots := 0, locals := 163 }
abbrev rm_X7_common : Room := { frames := 0, cells := 0, slots := 0, locals := 0 }
abbrev rm_X7_move : Room := { frames := 5, cells := 0, slots := 0, locals := 109 }
abbrev rm_X7_adopt : Room := { frames := 7, cells := 0, slots := 0, locals := 163 }
abbrev rm_X7_partIs : Room := { frames := 1, cells := 0, slots := 0, locals := 20 }
abbrev rm_X7_isUnderWay : Room := { frames := 2, cells := 0, slots := 0, locals := 42 }
abbrev rm_X7_sends : Room := { frames := 4, cells := 0, slots := 0, locals := 91 }
abbrev rm_X7_beginsRound : Room := { frames := 7, cells := 0, slots := 0, locals := 163 }
abbrev rm_X7_notes : Room := { frames := 0, cells := 0, slots := 0, locals := 0 }
abbrev rm_X7_buys : Room := { frames := 3, cells := 0, slots := 0, locals := 67 }
abbrev rm_X7_endsPart : Room := { frames := 2, cells := 0, slots := 0, locals := 46 }
abbrev rm_X7_goesAt : Room := { frames := 4, cells := 0, slots := 0, locals := 95 }
abbrev rm_X7_tick : Room := { frames := 8, cells := 0, slots := 0, locals := 186 }
abbrev rm_X7_toCome : Room := { frames := 0, cells := 0, slots := 0, locals := 0 }
abbrev rm_X7_isOver : Room := { frames := 7, cells := 0, slots := 0, locals := 163 }
abbrev rm_X7_isNow : Room := { frames := 8, cells := 0, slots := 0, locals := 183 }
abbrev rm_X7_refusesRun : Room := { frames := 0, cells := 0, slots := 0, locals := 0 }
abbrev rm_X7_now : Room := { frames := 9, cells := 0, slots := 0, locals := 204 }
abbrev rm_X7_part : Room := { frames := 2, cells := 0, slots := 0, locals := 43 }
abbrev rm_X7_entries : Room := { frames := 1, cells := 0, slots := 0, locals := 21 }
abbrev rm_X7_entry : Room := { frames := 1, cells := 0, slots := 0, locals := 22 }
abbrev rm_X7_bought : Room := { frames := 2, cells := 0, slots := 0, locals := 43 }
abbrev rm_X7_will : Room := { frames := 9, cells := 0, slots := 0, locals := 208 }
abbrev rm_X7_fee : Room := { frames := 2, cells := 0, slots := 0, locals := 43 }
abbrev rm_X7_resize : Room := { frames := 2, cells := 0, slots := 0, locals := 43 }
abbrev rm_X7_order : Room := { frames := 1, cells := 0, slots := 0, locals := 22 }
abbrev rm_X7_begin : Room := { frames := 8, cells := 0, slots := 0, locals := 186 }
abbrev rm_X7_ticks : Room := { frames := 9, cells := 0, slots := 0, locals := 208 }
abbrev rm_X7_call : Room := { frames := 2, cells := 0, slots := 0, locals := 43 }
abbrev rm_X7_keep : Room := { frames := 1, cells := 0, slots := 0, locals := 22 }
abbrev rm_X7_back : Room := { frames := 1, cells := 0, slots := 0, locals := 22 }
abbrev rm_X7_dry : Room := { frames := 4, cells := 0, slots := 0, locals := 88 }
abbrev rm_X7_size : Room := { frames := 0, cells := 0, slots := 0, locals := 0 }
abbrev rm_X7_trouble : Room := { frames := 0, cells := 0, slots := 0, locals := 0 }

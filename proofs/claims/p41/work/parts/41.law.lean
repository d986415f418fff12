def LawX (K : Kt) (b L : Nat) (xs : Nat → Int32) : Prop := va_X b L xs K.s K.s.heap ∧ b < K.s.heap.size ∧ K.G.z = K.s.heap.size ∧ K.l.stackTraces = false ∧ Xk K.G K.s K.s.heap
abbrev lawK (p : Program) (l : Launch) (e : Env) (s : State) (m : MethodId) (below : List Frame) (meth : Method) (c : Code) (b : Nat) (G : Gh) : Kt := ((p, l, e, room_1, s), (m, #[Value.ref b], below, meth, c), (G, fun _ => lw_Z below #[Value.ref b] s))
section LAWROWS
variable {K : Kt} {nL : Nat} {cs : Nat × Nat} {e : Option (Int32 × Wd)} {σ : Wd} {pc : Nat} {lv : List (Nat × Value)} {st : List Value} {cc : ByteArray} {own : String} {rm : Room} {b L : Nat} {xs : Nat → Int32}
theorem LawX.out (hL : LawX K b L xs) : ¬ zA K.G b := by
  show ¬ K.G.z ≤ b
  rw [hL.2.2.1]
  exact Nat.not_le.mpr hL.2.1
theorem r_sld {i : Int32} (hO : Ok K cc own nL rm) (hL : LawX K b L xs) (d : decode cc pc = .ok (.iaload, 1)) (kk : Cm K nL cs e σ (pc + 1) lv (.int (xs (ix i)) :: st)) : Cm K nL cs (gd (inb i L) e) σ pc lv (.int i :: .ref b :: st) := r_gd fun h out he H locs ls hP hS hl => va_sld hO.x hO.b hL.1 hL.2.1 hL.out hS (inb_in h) d (kk out he H locs ls hP hS hl)
theorem r_sln (hO : Ok K cc own nL rm) (hL : LawX K b L xs) (d : decode cc pc = .ok (.arraylength, 1)) (kk : Cm K nL cs e σ (pc + 1) lv (.int (nI L) :: st)) : Cm K nL cs e σ pc lv (.ref b :: st) := fun out he H locs ls hP hS hl => va_slen hO.x hO.b hL.1 hL.2.1 hL.out hS d (kk out he H locs ls hP hS hl)
theorem r_wid {cs' : Nat × Nat} (h1 : cs.1 ≤ cs'.1) (h2 : cs.2 ≤ cs'.2) (k : Cm K nL cs' e σ pc lv st) : Cm K nL cs e σ pc lv st := fun out he H locs ls hP hS hl => W.widen h1 h2 (k out he H locs ls hP hS hl)
theorem k_L_dry {a1 : Int32} {index : Nat} {g : Int32 → Wd → Option (Int32 × Wd)} (hO : Ok K cc own nL rm) (hL : LawX K b L xs) (hl0 : Cond.methodLink own index yL_dry ∈ gtb) (hcat : Nat.ble ((st.map fun v => v.category).sum) 8 = true) (hR1 : Nat.ble (rm_L_dry.frames + 1) rm.frames = true) (hR2 : Nat.ble (8 + (4 + 11) + rm_L_dry.locals) rm.locals = true) (hc1 : cs.1 + 1 ≤ rm.cells) (hc2 : cs.2 + 6 ≤ rm.slots) (d : decode cc pc = .ok (.invokestatic index, 3)) (kk : ∀ (r : Int32) (σ : Wd), Cm K nL (cs.1 + 1, cs.2 + 6) (g r σ) σ (pc + 3) lv (.int r :: st)) : Cm K nL cs (bd (f_L_dry a1 σ) g) σ pc lv (.ref (K.G.A 120) :: .int a1 :: .ref (K.G.A 0) :: st) := by
  intro out he H locs ls hP hS hl
  cases hf : f_L_dry a1 σ with
  | none => rw [hf] at he; cases he
  | some o =>
    obtain ⟨r0, σ0⟩ := o
    rw [hf] at he
    refine va_calli (vx_runSW (As := [.ref (K.G.A 0), .int a1, .ref (K.G.A 120)]) (rest := st) (hh := [(0, 9, 12, 13)]) (bytes := cL_dry) (maxL := 4) (ret := some .int) ⟨hO.x, hO.b, hO.ml, hO.own, hO.ts⟩ (c_L_dry hL.2.2.2.1 a1 σ _ hf) (vx_cwSW 3 hO.ts (lw_goodIn (fun w hw => ?_)) rfl rfl rfl ⟨by decide, by decide, by decide +kernel⟩ ⟨by rw [hO.rm]; exact Nat.le_of_ble_eq_true hR1, by rw [hO.rm]; exact Nat.le_of_ble_eq_true hR2⟩) ⟨Wlx_blind, fun U hU hW => ⟨rfl, Wl_of hO hP hS hU hW, ?_⟩⟩ rfl rfl hl.1 rfl (lv_room (Nat.le_of_ble_eq_true hcat)) d ⟨by rw [hO.rm]; exact hc1, by rw [hO.rm]; exact hc2⟩) hS (fun q _ h => h) (fun q h => h) (fun r u t H1 locs1 ht hvm hw hB hz1 hk1 hS1 => ?_)
    · rcases List.mem_append.mp hw with h | h
      · rcases List.mem_cons.mp h with h | h
        · rw [h]; exact hl0
        · rcases List.mem_cons.mp h with h | h
          · rw [h]; exact a_1136
          · rw [List.mem_singleton.mp h]; exact a_1137
      · rcases List.mem_cons.mp h with h | h
        · rw [h]; exact a_1138
        · exact h
    · rw [hU]
      exact (hL.2.2.2.2.kept (fun a h1 h2 => hS.2.1 a h1 h2)).moved hW
    · obtain ⟨rfl, rfl⟩ := hw
      exact kk r u out he H1 locs1 ls (by rw [← ht]; exact hB.2.1) hS1 hl
end LAWROWS
theorem r_lret {p : Program} {l : Launch} {e : Env} {s : State} {m : MethodId} {below : List Frame} {meth : Method} {c : Code} {b L : Nat} {xs : Nat → Int32} {G : Gh} {cs : Nat × Nat} {σ : Wd} {pc : Nat} {lv : List (Nat × Value)} (hO : Ok (lawK p l e s m below meth c b G) cL_law RL 7 room_1) (hL : LawX (lawK p l e s m below meth c b G) b L xs) (hr : meth.sig.returnType = ret) (h1 : cs.1 ≤ room_1.cells) (h2 : cs.2 ≤ room_1.slots) (d : decode cL_law pc = .ok (.ireturn, 1)) : Cm (lawK p l e s m below meth c b G) 7 cs (some (1, σ)) σ pc lv [.int 1] := by
  intro out he H locs ls hP hS hl
  refine va_forget (fun q hq => ?_) ?_
  · have h := hS.2.2 q hq
    have hz : G.z = s.heap.size := hL.2.2.1
    show s.heap.size ≤ q.base
    rw [← hz]
    exact h
  · refine W.widen h1 h2 ?_
    exact lw_ret hO.x hO.b hr hO.lk d
theorem nI6 (j : Nat) : nI (6 * j) + 6 = nI (6 * (j + 1)) := by
  rw [show (6 : Int32) = nI 6 from rfl, nI_add]; rfl
def f_law_0 (L : Nat) (xs : Nat → Int32) (k : Wd → Option (Int32 × Wd)) (i : Int32) (σ : Wd) : Option (Int32 × Wd) := gd (inb (i + (1 : Int32)) L) (gd (inb (i + (2 : Int32)) L) (gd (inb (i + (3 : Int32)) L) (gd (inb (i + (4 : Int32)) L) (gd (inb (i + (5 : Int32)) L) (bd (f_X6_feed (xs (ix (i + (1 : Int32)))) (xs (ix (i + (2 : Int32)))) (xs (ix (i + (3 : Int32)))) (xs (ix (i + (4 : Int32)))) (xs (ix (i + (5 : Int32)))) σ) fun r2 σ1 => gd (inb (i + (1 : Int32)) L) (gd (inb (i + (2 : Int32)) L) (gd (inb (i + (3 : Int32)) L) (gd (inb (i + (4 : Int32)) L) (gd (inb (i + (5 : Int32)) L) (bd (f_X7_feed (xs (ix (i + (1 : Int32)))) (xs (ix (i + (2 : Int32)))) (xs (ix (i + (3 : Int32)))) (xs (ix (i + (4 : Int32)))) (xs (ix (i + (5 : Int32)))) σ1) fun r4 σ3 => k σ3))))))))))
set_option maxRecDepth 20000 in
set_option maxHeartbeats 1000000 in
theorem b_law_0 {K : Kt} {cs : Nat × Nat} {b L : Nat} {xs : Nat → Int32} (hO : Ok K cL_law RL 7 room_1) (hL : LawX K b L xs) (hc1 : cs.1 + 1 ≤ room_1.cells) (hc2 : cs.2 + 6 ≤ room_1.slots) {k : Wd → Option (Int32 × Wd)} {i : Int32} (hk : ∀ σ : Wd, Cm K 7 (cs.1 + 1, cs.2 + 6) (k σ) σ 1363 [(0, .ref b), (1, .ref (K.G.A 0)), (2, .ref (K.G.A 102)), (3, .ref (K.G.A 120)), (4, .int i)] []) (σ : Wd) : Cm K 7 cs (f_law_0 L xs k i σ) σ 216 [(0, .ref b), (1, .ref (K.G.A 0)), (2, .ref (K.G.A 102)), (3, .ref (K.G.A 120)), (4, .int i)] [] := by
  refine r_aload_n (i := 1) hO rfl rfl dL_law_216 ?_
  refine r_aload_n (i := 0) hO rfl rfl dL_law_217 ?_
  refine r_iload hO (d := dL_law_218) rfl ?_
  refine r_iconst hO ci_1 dL_law_220 ?_
  refine r_iadd hO dL_law_221 ?_
  refine r_sld hO hL dL_law_222 ?_
  refine r_aload_n (i := 0) hO rfl rfl dL_law_223 ?_
  refine r_iload hO (d := dL_law_224) rfl ?_
  refine r_iconst hO ci_2 dL_law_226 ?_
  refine r_iadd hO dL_law_227 ?_
  refine r_sld hO hL dL_law_228 ?_
  refine r_aload_n (i := 0) hO rfl rfl dL_law_229 ?_
  refine r_iload hO (d := dL_law_230) rfl ?_
  refine r_iconst hO ci_3 dL_law_232 ?_
  refine r_iadd hO dL_law_233 ?_
  refine r_sld hO hL dL_law_234 ?_
  refine r_aload_n (i := 0) hO rfl rfl dL_law_235 ?_
  refine r_iload hO (d := dL_law_236) rfl ?_
  refine r_iconst hO ci_4 dL_law_238 ?_
  refine r_iadd hO dL_law_239 ?_
  refine r_sld hO hL dL_law_240 ?_
  refine r_aload_n (i := 0) hO rfl rfl dL_law_241 ?_
  refine r_iload hO (d := dL_law_242) rfl ?_
  refine r_iconst hO ci_5 dL_law_244 ?_
  refine r_iadd hO dL_law_245 ?_
  refine r_sld hO hL dL_law_246 ?_
  refine k_X6_feed hO a_1139 rfl ⟨rfl, rfl, Nat.le_of_succ_le hc1, Nat.le_trans (Nat.le_add_right _ 6) hc2⟩ dL_law_247 ?_
  intro r2 σ1
  refine r_pop hO rfl dL_law_250 ?_
  refine r_aload_n (i := 2) hO rfl rfl dL_law_251 ?_
  refine r_aload_n (i := 0) hO rfl rfl dL_law_252 ?_
  refine r_iload hO (d := dL_law_253) rfl ?_
  refine r_iconst hO ci_1 dL_law_255 ?_
  refine r_iadd hO dL_law_256 ?_
  refine r_sld hO hL dL_law_257 ?_
  refine r_aload_n (i := 0) hO rfl rfl dL_law_258 ?_
  refine r_iload hO (d := dL_law_259) rfl ?_
  refine r_iconst hO ci_2 dL_law_261 ?_
  refine r_iadd hO dL_law_262 ?_
  refine r_sld hO hL dL_law_263 ?_
  refine r_aload_n (i := 0) hO rfl rfl dL_law_264 ?_
  refine r_iload hO (d := dL_law_265) rfl ?_
  refine r_iconst hO ci_3 dL_law_267 ?_
  refine r_iadd hO dL_law_268 ?_
  refine r_sld hO hL dL_law_269 ?_
  refine r_aload_n (i := 0) hO rfl rfl dL_law_270 ?_
  refine r_iload hO (d := dL_law_271) rfl ?_
  refine r_iconst hO ci_4 dL_law_273 ?_
  refine r_iadd hO dL_law_274 ?_
  refine r_sld hO hL dL_law_275 ?_
  refine r_aload_n (i := 0) hO rfl rfl dL_law_276 ?_
  refine r_iload hO (d := dL_law_277) rfl ?_
  refine r_iconst hO ci_5 dL_law_279 ?_
  refine r_iadd hO dL_law_280 ?_
  refine r_sld hO hL dL_law_281 ?_
  refine k_X7_feed hO a_1140 rfl ⟨rfl, rfl, Nat.le_of_succ_le hc1, Nat.le_trans (Nat.le_add_right _ 6) hc2⟩ dL_law_282 ?_
  intro r4 σ3
  refine r_pop hO rfl dL_law_285 ?_
  refine r_goto (tgt := 1363) hO dL_law_286 (by decide) ?_
  exact r_jmp (r_wid (Nat.le_succ _) (Nat.le_add_right _ 6) (hk σ3)) (lsub_c rfl (lsub_c rfl (lsub_c rfl (lsub_c rfl (lsub_c rfl lsub_n)))))
def f_law_1 (L : Nat) (xs : Nat → Int32) (k : Wd → Option (Int32 × Wd)) (i : Int32) (σ : Wd) : Option (Int32 × Wd) := gd (inb (i + (1 : Int32)) L) (bd (f_X6_split (xs (ix (i + (1 : Int32)))) σ) fun r2 σ1 => gd (inb (i + (1 : Int32)) L) (bd (f_X7_split (xs (ix (i + (1 : Int32)))) σ1) fun r4 σ3 => k σ3))
set_option maxRecDepth 20000 in
set_option maxHeartbeats 1000000 in
theorem b_law_1 {K : Kt} {cs : Nat × Nat} {b L : Nat} {xs : Nat → Int32} (hO : Ok K cL_law RL 7 room_1) (hL : LawX K b L xs) (hc1 : cs.1 + 1 ≤ room_1.cells) (hc2 : cs.2 + 6 ≤ room_1.slots) {k : Wd → Option (Int32 × Wd)} {i : Int32} (hk : ∀ σ : Wd, Cm K 7 (cs.1 + 1, cs.2 + 6) (k σ) σ 1363 [(0, .ref b), (1, .ref (K.G.A 0)), (2, .ref (K.G.A 102)), (3, .ref (K.G.A 120)), (4, .int i)] []) (σ : Wd) : Cm K 7 cs (f_law_1 L xs k i σ) σ 289 [(0, .ref b), (1, .ref (K.G.A 0)), (2, .ref (K.G.A 102)), (3, .ref (K.G.A 120)), (4, .int i)] [] := by
  refine r_aload_n (i := 1) hO rfl rfl dL_law_289 ?_
  refine r_aload_n (i := 0) hO rfl rfl dL_law_290 ?_
  refine r_iload hO (d := dL_law_291) rfl ?_
  refine r_iconst hO ci_1 dL_law_293 ?_
  refine r_iadd hO dL_law_294 ?_
  refine r_sld hO hL dL_law_295 ?_
  refine k_X6_split hO a_1141 rfl ⟨rfl, rfl, Nat.le_of_succ_le hc1, Nat.le_trans (Nat.le_add_right _ 6) hc2⟩ dL_law_296 ?_
  intro r2 σ1
  refine r_pop hO rfl dL_law_299 ?_
  refine r_aload_n (i := 2) hO rfl rfl dL_law_300 ?_
  refine r_aload_n (i := 0) hO rfl rfl dL_law_301 ?_
  refine r_iload hO (d := dL_law_302) rfl ?_
  refine r_iconst hO ci_1 dL_law_304 ?_
  refine r_iadd hO dL_law_305 ?_
  refine r_sld hO hL dL_law_306 ?_
  refine k_X7_split hO a_1142 rfl ⟨rfl, rfl, Nat.le_of_succ_le hc1, Nat.le_trans (Nat.le_add_right _ 6) hc2⟩ dL_law_307 ?_
  intro r4 σ3
  refine r_pop hO rfl dL_law_310 ?_
  refine r_goto (tgt := 1363) hO dL_law_311 (by decide) ?_
  exact r_jmp (r_wid (Nat.le_succ _) (Nat.le_add_right _ 6) (hk σ3)) (lsub_c rfl (lsub_c rfl (lsub_c rfl (lsub_c rfl (lsub_c rfl lsub_n)))))
def f_law_2 (L : Nat) (xs : Nat → Int32) (k : Wd → Option (Int32 × Wd)) (i : Int32) (σ : Wd) : Option (Int32 × Wd) := bd (f_X6_fault σ) fun r2 σ1 => bd (f_X7_fault σ1) fun r4 σ3 => k σ3
set_option maxRecDepth 20000 in
set_option maxHeartbeats 1000000 in
theorem b_law_2 {K : Kt} {cs : Nat × Nat} {b L : Nat} {xs : Nat → Int32} (hO : Ok K cL_law RL 7 room_1) (hL : LawX K b L xs) (hc1 : cs.1 + 1 ≤ room_1.cells) (hc2 : cs.2 + 6 ≤ room_1.slots) {k : Wd → Option (Int32 × Wd)} {i : Int32} (hk : ∀ σ : Wd, Cm K 7 (cs.1 + 1, cs.2 + 6) (k σ) σ 1363 [(0, .ref b), (1, .ref (K.G.A 0)), (2, .ref (K.G.A 102)), (3, .ref (K.G.A 120)), (4, .int i)] []) (σ : Wd) : Cm K 7 cs (f_law_2 L xs k i σ) σ 314 [(0, .ref b), (1, .ref (K.G.A 0)), (2, .ref (K.G.A 102)), (3, .ref (K.G.A 120)), (4, .int i)] [] := by
  refine r_aload_n (i := 1) hO rfl rfl dL_law_314 ?_
  refine k_X6_fault hO a_1143 rfl ⟨rfl, rfl, Nat.le_of_succ_le hc1, Nat.le_trans (Nat.le_add_right _ 6) hc2⟩ dL_law_315 ?_
  intro r2 σ1
  refine r_pop hO rfl dL_law_318 ?_
  refine r_aload_n (i := 2) hO rfl rfl dL_law_319 ?_
  refine k_X7_fault hO a_1144 rfl ⟨rfl, rfl, Nat.le_of_succ_le hc1, Nat.le_trans (Nat.le_add_right _ 6) hc2⟩ dL_law_320 ?_
  intro r4 σ3
  refine r_pop hO rfl dL_law_323 ?_
  refine r_goto (tgt := 1363) hO dL_law_324 (by decide) ?_
  exact r_jmp (r_wid (Nat.le_succ _) (Nat.le_add_right _ 6) (hk σ3)) (lsub_c rfl (lsub_c rfl (lsub_c rfl (lsub_c rfl (lsub_c rfl lsub_n)))))
def f_law_3 (L : Nat) (xs : Nat → Int32) (k : Wd → Option (Int32 × Wd)) (i : Int32) (σ : Wd) : Option (Int32 × Wd) := bd (f_X6_where σ) fun r2 σ1 => bd (f_X7_where σ1) fun r4 σ3 => k σ3
set_option maxRecDepth 20000 in
set_option maxHeartbeats 1000000 in
theorem b_law_3 {K : Kt} {cs : Nat × Nat} {b L : Nat} {xs : Nat → Int32} (hO : Ok K cL_law RL 7 room_1) (hL : LawX K b L xs) (hc1 : cs.1 + 1 ≤ room_1.cells) (hc2 : cs.2 + 6 ≤ room_1.slots) {k : Wd → Option (Int32 × Wd)} {i : Int32} (hk : ∀ σ : Wd, Cm K 7 (cs.1 + 1, cs.2 + 6) (k σ) σ 1363 [(0, .ref b), (1, .ref (K.G.A 0)), (2, .ref (K.G.A 102)), (3, .ref (K.G.A 120)), (4, .int i)] []) (σ : Wd) : Cm K 7 cs (f_law_3 L xs k i σ) σ 327 [(0, .ref b), (1, .ref (K.G.A 0)), (2, .ref (K.G.A 102)), (3, .ref (K.G.A 120)), (4, .int i)] [] := by
  refine r_aload_n (i := 1) hO rfl rfl dL_law_327 ?_
  refine k_X6_where hO a_1145 rfl ⟨rfl, rfl, Nat.le_of_succ_le hc1, Nat.le_trans (Nat.le_add_right _ 6) hc2⟩ dL_law_328 ?_
  intro r2 σ1
  refine r_pop hO rfl dL_law_331 ?_
  refine r_aload_n (i := 2) hO rfl rfl dL_law_332 ?_
  refine k_X7_where hO a_1146 rfl ⟨rfl, rfl, Nat.le_of_succ_le hc1, Nat.le_trans (Nat.le_add_right _ 6) hc2⟩ dL_law_333 ?_
  intro r4 σ3
  refine r_pop hO rfl dL_law_336 ?_
  refine r_goto (tgt := 1363) hO dL_law_337 (by decide) ?_
  exact r_jmp (r_wid (Nat.le_succ _) (Nat.le_add_right _ 6) (hk σ3)) (lsub_c rfl (lsub_c rfl (lsub_c rfl (lsub_c rfl (lsub_c rfl lsub_n)))))
def f_law_4 (L : Nat) (xs : Nat → Int32) (k : Wd → Option (Int32 × Wd)) (i : Int32) (σ : Wd) : Option (Int32 × Wd) := gd (inb (i + (1 : Int32)) L) (bd (f_X6_about (xs (ix (i + (1 : Int32)))) σ) fun r2 σ1 => gd (inb (i + (1 : Int32)) L) (bd (f_X7_about (xs (ix (i + (1 : Int32)))) σ1) fun r4 σ3 => k σ3))
set_option maxRecDepth 20000 in
set_option maxHeartbeats 1000000 in
theorem b_law_4 {K : Kt} {cs : Nat × Nat} {b L : Nat} {xs : Nat → Int32} (hO : Ok K cL_law RL 7 room_1) (hL : LawX K b L xs) (hc1 : cs.1 + 1 ≤ room_1.cells) (hc2 : cs.2 + 6 ≤ room_1.slots) {k : Wd → Option (Int32 × Wd)} {i : Int32} (hk : ∀ σ : Wd, Cm K 7 (cs.1 + 1, cs.2 + 6) (k σ) σ 1363 [(0, .ref b), (1, .ref (K.G.A 0)), (2, .ref (K.G.A 102)), (3, .ref (K.G.A 120)), (4, .int i)] []) (σ : Wd) : Cm K 7 cs (f_law_4 L xs k i σ) σ 340 [(0, .ref b), (1, .ref (K.G.A 0)), (2, .ref (K.G.A 102)), (3, .ref (K.G.A 120)), (4, .int i)] [] := by
  refine r_aload_n (i := 1) hO rfl rfl dL_law_340 ?_
  refine r_aload_n (i := 0) hO rfl rfl dL_law_341 ?_
  refine r_iload hO (d := dL_law_342) rfl ?_
  refine r_iconst hO ci_1 dL_law_344 ?_
  refine r_iadd hO dL_law_345 ?_
  refine r_sld hO hL dL_law_346 ?_
  refine k_X6_about hO a_1147 rfl ⟨rfl, rfl, Nat.le_of_succ_le hc1, Nat.le_trans (Nat.le_add_right _ 6) hc2⟩ dL_law_347 ?_
  intro r2 σ1
  refine r_pop hO rfl dL_law_350 ?_
  refine r_aload_n (i := 2) hO rfl rfl dL_law_351 ?_
  refine r_aload_n (i := 0) hO rfl rfl dL_law_352 ?_
  refine r_iload hO (d := dL_law_353) rfl ?_
  refine r_iconst hO ci_1 dL_law_355 ?_
  refine r_iadd hO dL_law_356 ?_
  refine r_sld hO hL dL_law_357 ?_
  refine k_X7_about hO a_1148 rfl ⟨rfl, rfl, Nat.le_of_succ_le hc1, Nat.le_trans (Nat.le_add_right _ 6) hc2⟩ dL_law_358 ?_
  intro r4 σ3
  refine r_pop hO rfl dL_law_361 ?_
  refine r_goto (tgt := 1363) hO dL_law_362 (by decide) ?_
  exact r_jmp (r_wid (Nat.le_succ _) (Nat.le_add_right _ 6) (hk σ3)) (lsub_c rfl (lsub_c rfl (lsub_c rfl (lsub_c rfl (lsub_c rfl lsub_n)))))
def f_law_5 (L : Nat) (xs : Nat → Int32) (k : Wd → Option (Int32 × Wd)) (i : Int32) (σ : Wd) : Option (Int32 × Wd) := gd (inb (i + (1 : Int32)) L) (gd (inb (i + (2 : Int32)) L) (bd (f_X6_venue (xs (ix (i + (1 : Int32)))) (xs (ix (i + (2 : Int32)))) σ) fun r2 σ1 => gd (inb (i + (1 : Int32)) L) (gd (inb (i + (2 : Int32)) L) (bd (f_X7_venue (xs (ix (i + (1 : Int32)))) (xs (ix (i + (2 : Int32)))) σ1) fun r4 σ3 => k σ3))))
set_option maxRecDepth 20000 in
set_option maxHeartbeats 1000000 in
theorem b_law_5 {K : Kt} {cs : Nat × Nat} {b L : Nat} {xs : Nat → Int32} (hO : Ok K cL_law RL 7 room_1) (hL : LawX K b L xs) (hc1 : cs.1 + 1 ≤ room_1.cells) (hc2 : cs.2 + 6 ≤ room_1.slots) {k : Wd → Option (Int32 × Wd)} {i : Int32} (hk : ∀ σ : Wd, Cm K 7 (cs.1 + 1, cs.2 + 6) (k σ) σ 1363 [(0, .ref b), (1, .ref (K.G.A 0)), (2, .ref (K.G.A 102)), (3, .ref (K.G.A 120)), (4, .int i)] []) (σ : Wd) : Cm K 7 cs (f_law_5 L xs k i σ) σ 365 [(0, .ref b), (1, .ref (K.G.A 0)), (2, .ref (K.G.A 102)), (3, .ref (K.G.A 120)), (4, .int i)] [] := by
  refine r_aload_n (i := 1) hO rfl rfl dL_law_365 ?_
  refine r_aload_n (i := 0) hO rfl rfl dL_law_366 ?_
  refine r_iload hO (d := dL_law_367) rfl ?_
  refine r_iconst hO ci_1 dL_law_369 ?_
  refine r_iadd hO dL_law_370 ?_
  refine r_sld hO hL dL_law_371 ?_
  refine r_aload_n (i := 0) hO rfl rfl dL_law_372 ?_
  refine r_iload hO (d := dL_law_373) rfl ?_
  refine r_iconst hO ci_2 dL_law_375 ?_
  refine r_iadd hO dL_law_376 ?_
  refine r_sld hO hL dL_law_377 ?_
  refine k_X6_venue hO a_1149 rfl ⟨rfl, rfl, Nat.le_of_succ_le hc1, Nat.le_trans (Nat.le_add_right _ 6) hc2⟩ dL_law_378 ?_
  intro r2 σ1
  refine r_pop hO rfl dL_law_381 ?_
  refine r_aload_n (i := 2) hO rfl rfl dL_law_382 ?_
  refine r_aload_n (i := 0) hO rfl rfl dL_law_383 ?_
  refine r_iload hO (d := dL_law_384) rfl ?_
  refine r_iconst hO ci_1 dL_law_386 ?_
  refine r_iadd hO dL_law_387 ?_
  refine r_sld hO hL dL_law_388 ?_
  refine r_aload_n (i := 0) hO rfl rfl dL_law_389 ?_
  refine r_iload hO (d := dL_law_390) rfl ?_
  refine r_iconst hO ci_2 dL_law_392 ?_
  refine r_iadd hO dL_law_393 ?_
  refine r_sld hO hL dL_law_394 ?_
  refine k_X7_venue hO a_1150 rfl ⟨rfl, rfl, Nat.le_of_succ_le hc1, Nat.le_trans (Nat.le_add_right _ 6) hc2⟩ dL_law_395 ?_
  intro r4 σ3
  refine r_pop hO rfl dL_law_398 ?_
  refine r_goto (tgt := 1363) hO dL_law_399 (by decide) ?_
  exact r_jmp (r_wid (Nat.le_succ _) (Nat.le_add_right _ 6) (hk σ3)) (lsub_c rfl (lsub_c rfl (lsub_c rfl (lsub_c rfl (lsub_c rfl lsub_n)))))
def f_law_6 (L : Nat) (xs : Nat → Int32) (k : Wd → Option (Int32 × Wd)) (i : Int32) (σ : Wd) : Option (Int32 × Wd) := gd (inb (i + (1 : Int32)) L) (gd (inb (i + (2 : Int32)) L) (gd (inb (i + (3 : Int32)) L) (bd (f_X6_level (xs (ix (i + (1 : Int32)))) (xs (ix (i + (2 : Int32)))) (xs (ix (i + (3 : Int32)))) σ) fun r2 σ1 => gd (inb (i + (1 : Int32)) L) (gd (inb (i + (2 : Int32)) L) (gd (inb (i + (3 : Int32)) L) (bd (f_X7_level (xs (ix (i + (1 : Int32)))) (xs (ix (i + (2 : Int32)))) (xs (ix (i + (3 : Int32)))) σ1) fun r4 σ3 => k σ3))))))
set_option maxRecDepth 20000 in
set_option maxHeartbeats 1000000 in
theorem b_law_6 {K : Kt} {cs : Nat × Nat} {b L : Nat} {xs : Nat → Int32} (hO : Ok K cL_law RL 7 room_1) (hL : LawX K b L xs) (hc1 : cs.1 + 1 ≤ room_1.cells) (hc2 : cs.2 + 6 ≤ room_1.slots) {k : Wd → Option (Int32 × Wd)} {i : Int32} (hk : ∀ σ : Wd, Cm K 7 (cs.1 + 1, cs.2 + 6) (k σ) σ 1363 [(0, .ref b), (1, .ref (K.G.A 0)), (2, .ref (K.G.A 102)), (3, .ref (K.G.A 120)), (4, .int i)] []) (σ : Wd) : Cm K 7 cs (f_law_6 L xs k i σ) σ 402 [(0, .ref b), (1, .ref (K.G.A 0)), (2, .ref (K.G.A 102)), (3, .ref (K.G.A 120)), (4, .int i)] [] := by
  refine r_aload_n (i := 1) hO rfl rfl dL_law_402 ?_
  refine r_aload_n (i := 0) hO rfl rfl dL_law_403 ?_
  refine r_iload hO (d := dL_law_404) rfl ?_
  refine r_iconst hO ci_1 dL_law_406 ?_
  refine r_iadd hO dL_law_407 ?_
  refine r_sld hO hL dL_law_408 ?_
  refine r_aload_n (i := 0) hO rfl rfl dL_law_409 ?_
  refine r_iload hO (d := dL_law_410) rfl ?_
  refine r_iconst hO ci_2 dL_law_412 ?_
  refine r_iadd hO dL_law_413 ?_
  refine r_sld hO hL dL_law_414 ?_
  refine r_aload_n (i := 0) hO rfl rfl dL_law_415 ?_
  refine r_iload hO (d := dL_law_416) rfl ?_
  refine r_iconst hO ci_3 dL_law_418 ?_
  refine r_iadd hO dL_law_419 ?_
  refine r_sld hO hL dL_law_420 ?_
  refine k_X6_level hO a_1151 rfl ⟨rfl, rfl, Nat.le_of_succ_le hc1, Nat.le_trans (Nat.le_add_right _ 6) hc2⟩ dL_law_421 ?_
  intro r2 σ1
  refine r_pop hO rfl dL_law_424 ?_
  refine r_aload_n (i := 2) hO rfl rfl dL_law_425 ?_
  refine r_aload_n (i := 0) hO rfl rfl dL_law_426 ?_
  refine r_iload hO (d := dL_law_427) rfl ?_
  refine r_iconst hO ci_1 dL_law_429 ?_
  refine r_iadd hO dL_law_430 ?_
  refine r_sld hO hL dL_law_431 ?_
  refine r_aload_n (i := 0) hO rfl rfl dL_law_432 ?_
  refine r_iload hO (d := dL_law_433) rfl ?_
  refine r_iconst hO ci_2 dL_law_435 ?_
  refine r_iadd hO dL_law_436 ?_
  refine r_sld hO hL dL_law_437 ?_
  refine r_aload_n (i := 0) hO rfl rfl dL_law_438 ?_
  refine r_iload hO (d := dL_law_439) rfl ?_
  refine r_iconst hO ci_3 dL_law_441 ?_
  refine r_iadd hO dL_law_442 ?_
  refine r_sld hO hL dL_law_443 ?_
  refine k_X7_level hO a_1152 rfl ⟨rfl, rfl, Nat.le_of_succ_le hc1, Nat.le_trans (Nat.le_add_right _ 6) hc2⟩ dL_law_444 ?_
  intro r4 σ3
  refine r_pop hO rfl dL_law_447 ?_
  refine r_goto (tgt := 1363) hO dL_law_448 (by decide) ?_
  exact r_jmp (r_wid (Nat.le_succ _) (Nat.le_add_right _ 6) (hk σ3)) (lsub_c rfl (lsub_c rfl (lsub_c rfl (lsub_c rfl (lsub_c rfl lsub_n)))))
def f_law_7 (L : Nat) (xs : Nat → Int32) (k : Wd → Option (Int32 × Wd)) (i : Int32) (σ : Wd) : Option (Int32 × Wd) := gd (inb (i + (1 : Int32)) L) (gd (inb (i + (2 : Int32)) L) (bd (f_X6_charge (xs (ix (i + (1 : Int32)))) (xs (ix (i + (2 : Int32)))) σ) fun r2 σ1 => gd (inb (i + (1 : Int32)) L) (gd (inb (i + (2 : Int32)) L) (bd (f_X7_charge (xs (ix (i + (1 : Int32)))) (xs (ix (i + (2 : Int32)))) σ1) fun r4 σ3 => k σ3))))
set_option maxRecDepth 20000 in
set_option maxHeartbeats 1000000 in
theorem b_law_7 {K : Kt} {cs : Nat × Nat} {b L : Nat} {xs : Nat → Int32} (hO : Ok K cL_law RL 7 room_1) (hL : LawX K b L xs) (hc1 : cs.1 + 1 ≤ room_1.cells) (hc2 : cs.2 + 6 ≤ room_1.slots) {k : Wd → Option (Int32 × Wd)} {i : Int32} (hk : ∀ σ : Wd, Cm K 7 (cs.1 + 1, cs.2 + 6) (k σ) σ 1363 [(0, .ref b), (1, .ref (K.G.A 0)), (2, .ref (K.G.A 102)), (3, .ref (K.G.A 120)), (4, .int i)] []) (σ : Wd) : Cm K 7 cs (f_law_7 L xs k i σ) σ 451 [(0, .ref b), (1, .ref (K.G.A 0)), (2, .ref (K.G.A 102)), (3, .ref (K.G.A 120)), (4, .int i)] [] := by
  refine r_aload_n (i := 1) hO rfl rfl dL_law_451 ?_
  refine r_aload_n (i := 0) hO rfl rfl dL_law_452 ?_
  refine r_iload hO (d := dL_law_453) rfl ?_
  refine r_iconst hO ci_1 dL_law_455 ?_
  refine r_iadd hO dL_law_456 ?_
  refine r_sld hO hL dL_law_457 ?_
  refine r_aload_n (i := 0) hO rfl rfl dL_law_458 ?_
  refine r_iload hO (d := dL_law_459) rfl ?_
  refine r_iconst hO ci_2 dL_law_461 ?_
  refine r_iadd hO dL_law_462 ?_
  refine r_sld hO hL dL_law_463 ?_
  refine k_X6_charge hO a_1153 rfl ⟨rfl, rfl, Nat.le_of_succ_le hc1, Nat.le_trans (Nat.le_add_right _ 6) hc2⟩ dL_law_464 ?_
  intro r2 σ1
  refine r_pop hO rfl dL_law_467 ?_
  refine r_aload_n (i := 2) hO rfl rfl dL_law_468 ?_
  refine r_aload_n (i := 0) hO rfl rfl dL_law_469 ?_
  refine r_iload hO (d := dL_law_470) rfl ?_
  refine r_iconst hO ci_1 dL_law_472 ?_
  refine r_iadd hO dL_law_473 ?_
  refine r_sld hO hL dL_law_474 ?_
  refine r_aload_n (i := 0) hO rfl rfl dL_law_475 ?_
  refine r_iload hO (d := dL_law_476) rfl ?_
  refine r_iconst hO ci_2 dL_law_478 ?_
  refine r_iadd hO dL_law_479 ?_
  refine r_sld hO hL dL_law_480 ?_
  refine k_X7_charge hO a_1154 rfl ⟨rfl, rfl, Nat.le_of_succ_le hc1, Nat.le_trans (Nat.le_add_right _ 6) hc2⟩ dL_law_481 ?_
  intro r4 σ3
  refine r_pop hO rfl dL_law_484 ?_
  refine r_goto (tgt := 1363) hO dL_law_485 (by decide) ?_
  exact r_jmp (r_wid (Nat.le_succ _) (Nat.le_add_right _ 6) (hk σ3)) (lsub_c rfl (lsub_c rfl (lsub_c rfl (lsub_c rfl (lsub_c rfl lsub_n)))))
def f_law_8 (L : Nat) (xs : Nat → Int32) (k : Wd → Option (Int32 × Wd)) (i : Int32) (σ : Wd) : Option (Int32 × Wd) := gd (inb (i + (1 : Int32)) L) (gd (inb (i + (2 : Int32)) L) (bd (f_X6_cost (xs (ix (i + (1 : Int32)))) (xs (ix (i + (2 : Int32)))) σ) fun r2 σ1 => gd (inb (i + (1 : Int32)) L) (gd (inb (i + (2 : Int32)) L) (bd (f_X7_cost (xs (ix (i + (1 : Int32)))) (xs (ix (i + (2 : Int32)))) σ1) fun r4 σ3 => k σ3))))
set_option maxRecDepth 20000 in
set_option maxHeartbeats 1000000 in
theorem b_law_8 {K : Kt} {cs : Nat × Nat} {b L : Nat} {xs : Nat → Int32} (hO : Ok K cL_law RL 7 room_1) (hL : LawX K b L xs) (hc1 : cs.1 + 1 ≤ room_1.cells) (hc2 : cs.2 + 6 ≤ room_1.slots) {k : Wd → Option (Int32 × Wd)} {i : Int32} (hk : ∀ σ : Wd, Cm K 7 (cs.1 + 1, cs.2 + 6) (k σ) σ 1363 [(0, .ref b), (1, .ref (K.G.A 0)), (2, .ref (K.G.A 102)), (3, .ref (K.G.A 120)), (4, .int i)] []) (σ : Wd) : Cm K 7 cs (f_law_8 L xs k i σ) σ 488 [(0, .ref b), (1, .ref (K.G.A 0)), (2, .ref (K.G.A 102)), (3, .ref (K.G.A 120)), (4, .int i)] [] := by
  refine r_aload_n (i := 1) hO rfl rfl dL_law_488 ?_
  refine r_aload_n (i := 0) hO rfl rfl dL_law_489 ?_
  refine r_iload hO (d := dL_law_490) rfl ?_
  refine r_iconst hO ci_1 dL_law_492 ?_
  refine r_iadd hO dL_law_493 ?_
  refine r_sld hO hL dL_law_494 ?_
  refine r_aload_n (i := 0) hO rfl rfl dL_law_495 ?_
  refine r_iload hO (d := dL_law_496) rfl ?_
  refine r_iconst hO ci_2 dL_law_498 ?_
  refine r_iadd hO dL_law_499 ?_
  refine r_sld hO hL dL_law_500 ?_
  refine k_X6_cost hO a_1155 rfl ⟨rfl, rfl, Nat.le_of_succ_le hc1, Nat.le_trans (Nat.le_add_right _ 6) hc2⟩ dL_law_501 ?_
  intro r2 σ1
  refine r_pop hO rfl dL_law_504 ?_
  refine r_aload_n (i := 2) hO rfl rfl dL_law_505 ?_
  refine r_aload_n (i := 0) hO rfl rfl dL_law_506 ?_
  refine r_iload hO (d := dL_law_507) rfl ?_
  refine r_iconst hO ci_1 dL_law_509 ?_
  refine r_iadd hO dL_law_510 ?_
  refine r_sld hO hL dL_law_511 ?_
  refine r_aload_n (i := 0) hO rfl rfl dL_law_512 ?_
  refine r_iload hO (d := dL_law_513) rfl ?_
  refine r_iconst hO ci_2 dL_law_515 ?_
  refine r_iadd hO dL_law_516 ?_
  refine r_sld hO hL dL_law_517 ?_
  refine k_X7_cost hO a_1156 rfl ⟨rfl, rfl, Nat.le_of_succ_le hc1, Nat.le_trans (Nat.le_add_right _ 6) hc2⟩ dL_law_518 ?_
  intro r4 σ3
  refine r_pop hO rfl dL_law_521 ?_
  refine r_goto (tgt := 1363) hO dL_law_522 (by decide) ?_
  exact r_jmp (r_wid (Nat.le_succ _) (Nat.le_add_right _ 6) (hk σ3)) (lsub_c rfl (lsub_c rfl (lsub_c rfl (lsub_c rfl (lsub_c rfl lsub_n)))))
def f_law_9 (L : Nat) (xs : Nat → Int32) (k : Wd → Option (Int32 × Wd)) (i : Int32) (σ : Wd) : Option (Int32 × Wd) := gd (inb (i + (1 : Int32)) L) (gd (inb (i + (2 : Int32)) L) (bd (f_X6_under (xs (ix (i + (1 : Int32)))) (xs (ix (i + (2 : Int32)))) σ) fun r2 σ1 => gd (inb (i + (1 : Int32)) L) (gd (inb (i + (2 : Int32)) L) (bd (f_X7_under (xs (ix (i + (1 : Int32)))) (xs (ix (i + (2 : Int32)))) σ1) fun r4 σ3 => k σ3))))
set_option maxRecDepth 20000 in
set_option maxHeartbeats 1000000 in
theorem b_law_9 {K : Kt} {cs : Nat × Nat} {b L : Nat} {xs : Nat → Int32} (hO : Ok K cL_law RL 7 room_1) (hL : LawX K b L xs) (hc1 : cs.1 + 1 ≤ room_1.cells) (hc2 : cs.2 + 6 ≤ room_1.slots) {k : Wd → Option (Int32 × Wd)} {i : Int32} (hk : ∀ σ : Wd, Cm K 7 (cs.1 + 1, cs.2 + 6) (k σ) σ 1363 [(0, .ref b), (1, .ref (K.G.A 0)), (2, .ref (K.G.A 102)), (3, .ref (K.G.A 120)), (4, .int i)] []) (σ : Wd) : Cm K 7 cs (f_law_9 L xs k i σ) σ 525 [(0, .ref b), (1, .ref (K.G.A 0)), (2, .ref (K.G.A 102)), (3, .ref (K.G.A 120)), (4, .int i)] [] := by
  refine r_aload_n (i := 1) hO rfl rfl dL_law_525 ?_
  refine r_aload_n (i := 0) hO rfl rfl dL_law_526 ?_
  refine r_iload hO (d := dL_law_527) rfl ?_
  refine r_iconst hO ci_1 dL_law_529 ?_
  refine r_iadd hO dL_law_530 ?_
  refine r_sld hO hL dL_law_531 ?_
  refine r_aload_n (i := 0) hO rfl rfl dL_law_532 ?_
  refine r_iload hO (d := dL_law_533) rfl ?_
  refine r_iconst hO ci_2 dL_law_535 ?_
  refine r_iadd hO dL_law_536 ?_
  refine r_sld hO hL dL_law_537 ?_
  refine k_X6_under hO a_1157 rfl ⟨rfl, rfl, Nat.le_of_succ_le hc1, Nat.le_trans (Nat.le_add_right _ 6) hc2⟩ dL_law_538 ?_
  intro r2 σ1
  refine r_pop hO rfl dL_law_541 ?_
  refine r_aload_n (i := 2) hO rfl rfl dL_law_542 ?_
  refine r_aload_n (i := 0) hO rfl rfl dL_law_543 ?_
  refine r_iload hO (d := dL_law_544) rfl ?_
  refine r_iconst hO ci_1 dL_law_546 ?_
  refine r_iadd hO dL_law_547 ?_
  refine r_sld hO hL dL_law_548 ?_
  refine r_aload_n (i := 0) hO rfl rfl dL_law_549 ?_
  refine r_iload hO (d := dL_law_550) rfl ?_
  refine r_iconst hO ci_2 dL_law_552 ?_
  refine r_iadd hO dL_law_553 ?_
  refine r_sld hO hL dL_law_554 ?_
  refine k_X7_under hO a_1158 rfl ⟨rfl, rfl, Nat.le_of_succ_le hc1, Nat.le_trans (Nat.le_add_right _ 6) hc2⟩ dL_law_555 ?_
  intro r4 σ3
  refine r_pop hO rfl dL_law_558 ?_
  refine r_goto (tgt := 1363) hO dL_law_559 (by decide) ?_
  exact r_jmp (r_wid (Nat.le_succ _) (Nat.le_add_right _ 6) (hk σ3)) (lsub_c rfl (lsub_c rfl (lsub_c rfl (lsub_c rfl (lsub_c rfl lsub_n)))))
def f_law_10 (L : Nat) (xs : Nat → Int32) (k : Wd → Option (Int32 × Wd)) (i : Int32) (σ : Wd) : Option (Int32 × Wd) := gd (inb (i + (1 : Int32)) L) (bd (f_X6_units (xs (ix (i + (1 : Int32)))) σ) fun r2 σ1 => gd (inb (i + (1 : Int32)) L) (bd (f_X7_units (xs (ix (i + (1 : Int32)))) σ1) fun r4 σ3 => k σ3))
set_option maxRecDepth 20000 in
set_option maxHeartbeats 1000000 in
theorem b_law_10 {K : Kt} {cs : Nat × Nat} {b L : Nat} {xs : Nat → Int32} (hO : Ok K cL_law RL 7 room_1) (hL : LawX K b L xs) (hc1 : cs.1 + 1 ≤ room_1.cells) (hc2 : cs.2 + 6 ≤ room_1.slots) {k : Wd → Option (Int32 × Wd)} {i : Int32} (hk : ∀ σ : Wd, Cm K 7 (cs.1 + 1, cs.2 + 6) (k σ) σ 1363 [(0, .ref b), (1, .ref (K.G.A 0)), (2, .ref (K.G.A 102)), (3, .ref (K.G.A 120)), (4, .int i)] []) (σ : Wd) : Cm K 7 cs (f_law_10 L xs k i σ) σ 562 [(0, .ref b), (1, .ref (K.G.A 0)), (2, .ref (K.G.A 102)), (3, .ref (K.G.A 120)), (4, .int i)] [] := by
  refine r_aload_n (i := 1) hO rfl rfl dL_law_562 ?_
  refine r_aload_n (i := 0) hO rfl rfl dL_law_563 ?_
  refine r_iload hO (d := dL_law_564) rfl ?_
  refine r_iconst hO ci_1 dL_law_566 ?_
  refine r_iadd hO dL_law_567 ?_
  refine r_sld hO hL dL_law_568 ?_
  refine k_X6_units hO a_1159 rfl ⟨rfl, rfl, Nat.le_of_succ_le hc1, Nat.le_trans (Nat.le_add_right _ 6) hc2⟩ dL_law_569 ?_
  intro r2 σ1
  refine r_pop hO rfl dL_law_572 ?_
  refine r_aload_n (i := 2) hO rfl rfl dL_law_573 ?_
  refine r_aload_n (i := 0) hO rfl rfl dL_law_574 ?_
  refine r_iload hO (d := dL_law_575) rfl ?_
  refine r_iconst hO ci_1 dL_law_577 ?_
  refine r_iadd hO dL_law_578 ?_
  refine r_sld hO hL dL_law_579 ?_
  refine k_X7_units hO a_1160 rfl ⟨rfl, rfl, Nat.le_of_succ_le hc1, Nat.le_trans (Nat.le_add_right _ 6) hc2⟩ dL_law_580 ?_
  intro r4 σ3
  refine r_pop hO rfl dL_law_583 ?_
  refine r_goto (tgt := 1363) hO dL_law_584 (by decide) ?_
  exact r_jmp (r_wid (Nat.le_succ _) (Nat.le_add_right _ 6) (hk σ3)) (lsub_c rfl (lsub_c rfl (lsub_c rfl (lsub_c rfl (lsub_c rfl lsub_n)))))
def f_law_11 (L : Nat) (xs : Nat → Int32) (k : Wd → Option (Int32 × Wd)) (i : Int32) (σ : Wd) : Option (Int32 × Wd) := gd (inb (i + (1 : Int32)) L) (bd (f_X6_best (xs (ix (i + (1 : Int32)))) σ) fun r2 σ1 => gd (inb (i + (1 : Int32)) L) (bd (f_X7_best (xs (ix (i + (1 : Int32)))) σ1) fun r4 σ3 => k σ3))
set_option maxRecDepth 20000 in
set_option maxHeartbeats 1000000 in
theorem b_law_11 {K : Kt} {cs : Nat × Nat} {b L : Nat} {xs : Nat → Int32} (hO : Ok K cL_law RL 7 room_1) (hL : LawX K b L xs) (hc1 : cs.1 + 1 ≤ room_1.cells) (hc2 : cs.2 + 6 ≤ room_1.slots) {k : Wd → Option (Int32 × Wd)} {i : Int32} (hk : ∀ σ : Wd, Cm K 7 (cs.1 + 1, cs.2 + 6) (k σ) σ 1363 [(0, .ref b), (1, .ref (K.G.A 0)), (2, .ref (K.G.A 102)), (3, .ref (K.G.A 120)), (4, .int i)] []) (σ : Wd) : Cm K 7 cs (f_law_11 L xs k i σ) σ 587 [(0, .ref b), (1, .ref (K.G.A 0)), (2, .ref (K.G.A 102)), (3, .ref (K.G.A 120)), (4, .int i)] [] := by
  refine r_aload_n (i := 1) hO rfl rfl dL_law_587 ?_
  refine r_aload_n (i := 0) hO rfl rfl dL_law_588 ?_
  refine r_iload hO (d := dL_law_589) rfl ?_
  refine r_iconst hO ci_1 dL_law_591 ?_
  refine r_iadd hO dL_law_592 ?_
  refine r_sld hO hL dL_law_593 ?_
  refine k_X6_best hO a_1161 rfl ⟨rfl, rfl, Nat.le_of_succ_le hc1, Nat.le_trans (Nat.le_add_right _ 6) hc2⟩ dL_law_594 ?_
  intro r2 σ1
  refine r_pop hO rfl dL_law_597 ?_
  refine r_aload_n (i := 2) hO rfl rfl dL_law_598 ?_
  refine r_aload_n (i := 0) hO rfl rfl dL_law_599 ?_
  refine r_iload hO (d := dL_law_600) rfl ?_
  refine r_iconst hO ci_1 dL_law_602 ?_
  refine r_iadd hO dL_law_603 ?_
  refine r_sld hO hL dL_law_604 ?_
  refine k_X7_best hO a_1162 rfl ⟨rfl, rfl, Nat.le_of_succ_le hc1, Nat.le_trans (Nat.le_add_right _ 6) hc2⟩ dL_law_605 ?_
  intro r4 σ3
  refine r_pop hO rfl dL_law_608 ?_
  refine r_goto (tgt := 1363) hO dL_law_609 (by decide) ?_
  exact r_jmp (r_wid (Nat.le_succ _) (Nat.le_add_right _ 6) (hk σ3)) (lsub_c rfl (lsub_c rfl (lsub_c rfl (lsub_c rfl (lsub_c rfl lsub_n)))))
def f_law_12 (L : Nat) (xs : Nat → Int32) (k : Wd → Option (Int32 × Wd)) (i : Int32) (σ : Wd) : Option (Int32 × Wd) := gd (inb (i + (1 : Int32)) L) (gd (inb (i + (2 : Int32)) L) (bd (f_X6_share (xs (ix (i + (1 : Int32)))) (xs (ix (i + (2 : Int32)))) σ) fun r2 σ1 => gd (inb (i + (1 : Int32)) L) (gd (inb (i + (2 : Int32)) L) (bd (f_X7_share (xs (ix (i + (1 : Int32)))) (xs (ix (i + (2 : Int32)))) σ1) fun r4 σ3 => k σ3))))
set_option maxRecDepth 20000 in
set_option maxHeartbeats 1000000 in
theorem b_law_12 {K : Kt} {cs : Nat × Nat} {b L : Nat} {xs : Nat → Int32} (hO : Ok K cL_law RL 7 room_1) (hL : LawX K b L xs) (hc1 : cs.1 + 1 ≤ room_1.cells) (hc2 : cs.2 + 6 ≤ room_1.slots) {k : Wd → Option (Int32 × Wd)} {i : Int32} (hk : ∀ σ : Wd, Cm K 7 (cs.1 + 1, cs.2 + 6) (k σ) σ 1363 [(0, .ref b), (1, .ref (K.G.A 0)), (2, .ref (K.G.A 102)), (3, .ref (K.G.A 120)), (4, .int i)] []) (σ : Wd) : Cm K 7 cs (f_law_12 L xs k i σ) σ 612 [(0, .ref b), (1, .ref (K.G.A 0)), (2, .ref (K.G.A 102)), (3, .ref (K.G.A 120)), (4, .int i)] [] := by
  refine r_aload_n (i := 1) hO rfl rfl dL_law_612 ?_
  refine r_aload_n (i := 0) hO rfl rfl dL_law_613 ?_
  refine r_iload hO (d := dL_law_614) rfl ?_
  refine r_iconst hO ci_1 dL_law_616 ?_
  refine r_iadd hO dL_law_617 ?_
  refine r_sld hO hL dL_law_618 ?_
  refine r_aload_n (i := 0) hO rfl rfl dL_law_619 ?_
  refine r_iload hO (d := dL_law_620) rfl ?_
  refine r_iconst hO ci_2 dL_law_622 ?_
  refine r_iadd hO dL_law_623 ?_
  refine r_sld hO hL dL_law_624 ?_
  refine k_X6_share hO a_1163 rfl ⟨rfl, rfl, Nat.le_of_succ_le hc1, Nat.le_trans (Nat.le_add_right _ 6) hc2⟩ dL_law_625 ?_
  intro r2 σ1
  refine r_pop hO rfl dL_law_628 ?_
  refine r_aload_n (i := 2) hO rfl rfl dL_law_629 ?_
  refine r_aload_n (i := 0) hO rfl rfl dL_law_630 ?_
  refine r_iload hO (d := dL_law_631) rfl ?_
  refine r_iconst hO ci_1 dL_law_633 ?_
  refine r_iadd hO dL_law_634 ?_
  refine r_sld hO hL dL_law_635 ?_
  refine r_aload_n (i := 0) hO rfl rfl dL_law_636 ?_
  refine r_iload hO (d := dL_law_637) rfl ?_
  refine r_iconst hO ci_2 dL_law_639 ?_
  refine r_iadd hO dL_law_640 ?_
  refine r_sld hO hL dL_law_641 ?_
  refine k_X7_share hO a_1164 rfl ⟨rfl, rfl, Nat.le_of_succ_le hc1, Nat.le_trans (Nat.le_add_right _ 6) hc2⟩ dL_law_642 ?_
  intro r4 σ3
  refine r_pop hO rfl dL_law_645 ?_
  refine r_goto (tgt := 1363) hO dL_law_646 (by decide) ?_
  exact r_jmp (r_wid (Nat.le_succ _) (Nat.le_add_right _ 6) (hk σ3)) (lsub_c rfl (lsub_c rfl (lsub_c rfl (lsub_c rfl (lsub_c rfl lsub_n)))))
def f_law_13 (L : Nat) (xs : Nat → Int32) (k : Wd → Option (Int32 × Wd)) (i : Int32) (σ : Wd) : Option (Int32 × Wd) := gd (inb (i + (1 : Int32)) L) (bd (f_X6_bound (xs (ix (i + (1 : Int32)))) σ) fun r2 σ1 => gd (inb (i + (1 : Int32)) L) (bd (f_X7_bound (xs (ix (i + (1 : Int32)))) σ1) fun r4 σ3 => k σ3))
set_option maxRecDepth 20000 in
set_option maxHeartbeats 1000000 in
theorem b_law_13 {K : Kt} {cs : Nat × Nat} {b L : Nat} {xs : Nat → Int32} (hO : Ok K cL_law RL 7 room_1) (hL : LawX K b L xs) (hc1 : cs.1 + 1 ≤ room_1.cells) (hc2 : cs.2 + 6 ≤ room_1.slots) {k : Wd → Option (Int32 × Wd)} {i : Int32} (hk : ∀ σ : Wd, Cm K 7 (cs.1 + 1, cs.2 + 6) (k σ) σ 1363 [(0, .ref b), (1, .ref (K.G.A 0)), (2, .ref (K.G.A 102)), (3, .ref (K.G.A 120)), (4, .int i)] []) (σ : Wd) : Cm K 7 cs (f_law_13 L xs k i σ) σ 649 [(0, .ref b), (1, .ref (K.G.A 0)), (2, .ref (K.G.A 102)), (3, .ref (K.G.A 120)), (4, .int i)] [] := by
  refine r_aload_n (i := 1) hO rfl rfl dL_law_649 ?_
  refine r_aload_n (i := 0) hO rfl rfl dL_law_650 ?_
  refine r_iload hO (d := dL_law_651) rfl ?_
  refine r_iconst hO ci_1 dL_law_653 ?_
  refine r_iadd hO dL_law_654 ?_
  refine r_sld hO hL dL_law_655 ?_
  refine k_X6_bound hO a_1165 rfl ⟨rfl, rfl, Nat.le_of_succ_le hc1, Nat.le_trans (Nat.le_add_right _ 6) hc2⟩ dL_law_656 ?_
  intro r2 σ1
  refine r_pop hO rfl dL_law_659 ?_
  refine r_aload_n (i := 2) hO rfl rfl dL_law_660 ?_
  refine r_aload_n (i := 0) hO rfl rfl dL_law_661 ?_
  refine r_iload hO (d := dL_law_662) rfl ?_
  refine r_iconst hO ci_1 dL_law_664 ?_
  refine r_iadd hO dL_law_665 ?_
  refine r_sld hO hL dL_law_666 ?_
  refine k_X7_bound hO a_1166 rfl ⟨rfl, rfl, Nat.le_of_succ_le hc1, Nat.le_trans (Nat.le_add_right _ 6) hc2⟩ dL_law_667 ?_
  intro r4 σ3
  refine r_pop hO rfl dL_law_670 ?_
  refine r_goto (tgt := 1363) hO dL_law_671 (by decide) ?_
  exact r_jmp (r_wid (Nat.le_succ _) (Nat.le_add_right _ 6) (hk σ3)) (lsub_c rfl (lsub_c rfl (lsub_c rfl (lsub_c rfl (lsub_c rfl lsub_n)))))
def f_law_14 (L : Nat) (xs : Nat → Int32) (k : Wd → Option (Int32 × Wd)) (i : Int32) (σ : Wd) : Option (Int32 × Wd) := gd (inb (i + (1 : Int32)) L) (bd (f_X6_margin (xs (ix (i + (1 : Int32)))) σ) fun r2 σ1 => gd (inb (i + (1 : Int32)) L) (bd (f_X7_margin (xs (ix (i + (1 : Int32)))) σ1) fun r4 σ3 => k σ3))
set_option maxRecDepth 20000 in
set_option maxHeartbeats 1000000 in
theorem b_law_14 {K : Kt} {cs : Nat × Nat} {b L : Nat} {xs : Nat → Int32} (hO : Ok K cL_law RL 7 room_1) (hL : LawX K b L xs) (hc1 : cs.1 + 1 ≤ room_1.cells) (hc2 : cs.2 + 6 ≤ room_1.slots) {k : Wd → Option (Int32 × Wd)} {i : Int32} (hk : ∀ σ : Wd, Cm K 7 (cs.1 + 1, cs.2 + 6) (k σ) σ 1363 [(0, .ref b), (1, .ref (K.G.A 0)), (2, .ref (K.G.A 102)), (3, .ref (K.G.A 120)), (4, .int i)] []) (σ : Wd) : Cm K 7 cs (f_law_14 L xs k i σ) σ 674 [(0, .ref b), (1, .ref (K.G.A 0)), (2, .ref (K.G.A 102)), (3, .ref (K.G.A 120)), (4, .int i)] [] := by
  refine r_aload_n (i := 1) hO rfl rfl dL_law_674 ?_
  refine r_aload_n (i := 0) hO rfl rfl dL_law_675 ?_
  refine r_iload hO (d := dL_law_676) rfl ?_
  refine r_iconst hO ci_1 dL_law_678 ?_
  refine r_iadd hO dL_law_679 ?_
  refine r_sld hO hL dL_law_680 ?_
  refine k_X6_margin hO a_1167 rfl ⟨rfl, rfl, Nat.le_of_succ_le hc1, Nat.le_trans (Nat.le_add_right _ 6) hc2⟩ dL_law_681 ?_
  intro r2 σ1
  refine r_pop hO rfl dL_law_684 ?_
  refine r_aload_n (i := 2) hO rfl rfl dL_law_685 ?_
  refine r_aload_n (i := 0) hO rfl rfl dL_law_686 ?_
  refine r_iload hO (d := dL_law_687) rfl ?_
  refine r_iconst hO ci_1 dL_law_689 ?_
  refine r_iadd hO dL_law_690 ?_
  refine r_sld hO hL dL_law_691 ?_
  refine k_X7_margin hO a_1168 rfl ⟨rfl, rfl, Nat.le_of_succ_le hc1, Nat.le_trans (Nat.le_add_right _ 6) hc2⟩ dL_law_692 ?_
  intro r4 σ3
  refine r_pop hO rfl dL_law_695 ?_
  refine r_goto (tgt := 1363) hO dL_law_696 (by decide) ?_
  exact r_jmp (r_wid (Nat.le_succ _) (Nat.le_add_right _ 6) (hk σ3)) (lsub_c rfl (lsub_c rfl (lsub_c rfl (lsub_c rfl (lsub_c rfl lsub_n)))))
def f_law_15 (L : Nat) (xs : Nat → Int32) (k : Wd → Option (Int32 × Wd)) (i : Int32) (σ : Wd) : Option (Int32 × Wd) := gd (inb (i + (1 : Int32)) L) (bd (f_X6_gap (xs (ix (i + (1 : Int32)))) σ) fun r2 σ1 => gd (inb (i + (1 : Int32)) L) (bd (f_X7_gap (xs (ix (i + (1 : Int32)))) σ1) fun r4 σ3 => k σ3))
set_option maxRecDepth 20000 in
set_option maxHeartbeats 1000000 in
theorem b_law_15 {K : Kt} {cs : Nat × Nat} {b L : Nat} {xs : Nat → Int32} (hO : Ok K cL_law RL 7 room_1) (hL : LawX K b L xs) (hc1 : cs.1 + 1 ≤ room_1.cells) (hc2 : cs.2 + 6 ≤ room_1.slots) {k : Wd → Option (Int32 × Wd)} {i : Int32} (hk : ∀ σ : Wd, Cm K 7 (cs.1 + 1, cs.2 + 6) (k σ) σ 1363 [(0, .ref b), (1, .ref (K.G.A 0)), (2, .ref (K.G.A 102)), (3, .ref (K.G.A 120)), (4, .int i)] []) (σ : Wd) : Cm K 7 cs (f_law_15 L xs k i σ) σ 699 [(0, .ref b), (1, .ref (K.G.A 0)), (2, .ref (K.G.A 102)), (3, .ref (K.G.A 120)), (4, .int i)] [] := by
  refine r_aload_n (i := 1) hO rfl rfl dL_law_699 ?_
  refine r_aload_n (i := 0) hO rfl rfl dL_law_700 ?_
  refine r_iload hO (d := dL_law_701) rfl ?_
  refine r_iconst hO ci_1 dL_law_703 ?_
  refine r_iadd hO dL_law_704 ?_
  refine r_sld hO hL dL_law_705 ?_
  refine k_X6_gap hO a_1169 rfl ⟨rfl, rfl, Nat.le_of_succ_le hc1, Nat.le_trans (Nat.le_add_right _ 6) hc2⟩ dL_law_706 ?_
  intro r2 σ1
  refine r_pop hO rfl dL_law_709 ?_
  refine r_aload_n (i := 2) hO rfl rfl dL_law_710 ?_
  refine r_aload_n (i := 0) hO rfl rfl dL_law_711 ?_
  refine r_iload hO (d := dL_law_712) rfl ?_
  refine r_iconst hO ci_1 dL_law_714 ?_
  refine r_iadd hO dL_law_715 ?_
  refine r_sld hO hL dL_law_716 ?_
  refine k_X7_gap hO a_1170 rfl ⟨rfl, rfl, Nat.le_of_succ_le hc1, Nat.le_trans (Nat.le_add_right _ 6) hc2⟩ dL_law_717 ?_
  intro r4 σ3
  refine r_pop hO rfl dL_law_720 ?_
  refine r_goto (tgt := 1363) hO dL_law_721 (by decide) ?_
  exact r_jmp (r_wid (Nat.le_succ _) (Nat.le_add_right _ 6) (hk σ3)) (lsub_c rfl (lsub_c rfl (lsub_c rfl (lsub_c rfl (lsub_c rfl lsub_n)))))
def f_law_16 (L : Nat) (xs : Nat → Int32) (k : Wd → Option (Int32 × Wd)) (i : Int32) (σ : Wd) : Option (Int32 × Wd) := gd (inb (i + (1 : Int32)) L) (gd (inb (i + (2 : Int32)) L) (bd (f_X6_greedy (xs (ix (i + (1 : Int32)))) (xs (ix (i + (2 : Int32)))) σ) fun r2 σ1 => gd (inb (i + (1 : Int32)) L) (gd (inb (i + (2 : Int32)) L) (bd (f_X7_greedy (xs (ix (i + (1 : Int32)))) (xs (ix (i + (2 : Int32)))) σ1) fun r4 σ3 => k σ3))))
set_option maxRecDepth 20000 in
set_option maxHeartbeats 1000000 in
theorem b_law_16 {K : Kt} {cs : Nat × Nat} {b L : Nat} {xs : Nat → Int32} (hO : Ok K cL_law RL 7 room_1) (hL : LawX K b L xs) (hc1 : cs.1 + 1 ≤ room_1.cells) (hc2 : cs.2 + 6 ≤ room_1.slots) {k : Wd → Option (Int32 × Wd)} {i : Int32} (hk : ∀ σ : Wd, Cm K 7 (cs.1 + 1, cs.2 + 6) (k σ) σ 1363 [(0, .ref b), (1, .ref (K.G.A 0)), (2, .ref (K.G.A 102)), (3, .ref (K.G.A 120)), (4, .int i)] []) (σ : Wd) : Cm K 7 cs (f_law_16 L xs k i σ) σ 724 [(0, .ref b), (1, .ref (K.G.A 0)), (2, .ref (K.G.A 102)), (3, .ref (K.G.A 120)), (4, .int i)] [] := by
  refine r_aload_n (i := 1) hO rfl rfl dL_law_724 ?_
  refine r_aload_n (i := 0) hO rfl rfl dL_law_725 ?_
  refine r_iload hO (d := dL_law_726) rfl ?_
  refine r_iconst hO ci_1 dL_law_728 ?_
  refine r_iadd hO dL_law_729 ?_
  refine r_sld hO hL dL_law_730 ?_
  refine r_aload_n (i := 0) hO rfl rfl dL_law_731 ?_
  refine r_iload hO (d := dL_law_732) rfl ?_
  refine r_iconst hO ci_2 dL_law_734 ?_
  refine r_iadd hO dL_law_735 ?_
  refine r_sld hO hL dL_law_736 ?_
  refine k_X6_greedy hO a_1171 rfl ⟨rfl, rfl, Nat.le_of_succ_le hc1, Nat.le_trans (Nat.le_add_right _ 6) hc2⟩ dL_law_737 ?_
  intro r2 σ1
  refine r_pop hO rfl dL_law_740 ?_
  refine r_aload_n (i := 2) hO rfl rfl dL_law_741 ?_
  refine r_aload_n (i := 0) hO rfl rfl dL_law_742 ?_
  refine r_iload hO (d := dL_law_743) rfl ?_
  refine r_iconst hO ci_1 dL_law_745 ?_
  refine r_iadd hO dL_law_746 ?_
  refine r_sld hO hL dL_law_747 ?_
  refine r_aload_n (i := 0) hO rfl rfl dL_law_748 ?_
  refine r_iload hO (d := dL_law_749) rfl ?_
  refine r_iconst hO ci_2 dL_law_751 ?_
  refine r_iadd hO dL_law_752 ?_
  refine r_sld hO hL dL_law_753 ?_
  refine k_X7_greedy hO a_1172 rfl ⟨rfl, rfl, Nat.le_of_succ_le hc1, Nat.le_trans (Nat.le_add_right _ 6) hc2⟩ dL_law_754 ?_
  intro r4 σ3
  refine r_pop hO rfl dL_law_757 ?_
  refine r_goto (tgt := 1363) hO dL_law_758 (by decide) ?_
  exact r_jmp (r_wid (Nat.le_succ _) (Nat.le_add_right _ 6) (hk σ3)) (lsub_c rfl (lsub_c rfl (lsub_c rfl (lsub_c rfl (lsub_c rfl lsub_n)))))
def f_law_17 (L : Nat) (xs : Nat → Int32) (k : Wd → Option (Int32 × Wd)) (i : Int32) (σ : Wd) : Option (Int32 × Wd) := gd (inb (i + (1 : Int32)) L) (gd (inb (i + (2 : Int32)) L) (bd (f_X6_worth (xs (ix (i + (1 : Int32)))) (xs (ix (i + (2 : Int32)))) σ) fun r2 σ1 => gd (inb (i + (1 : Int32)) L) (gd (inb (i + (2 : Int32)) L) (bd (f_X7_worth (xs (ix (i + (1 : Int32)))) (xs (ix (i + (2 : Int32)))) σ1) fun r4 σ3 => k σ3))))
set_option maxRecDepth 20000 in
set_option maxHeartbeats 1000000 in
theorem b_law_17 {K : Kt} {cs : Nat × Nat} {b L : Nat} {xs : Nat → Int32} (hO : Ok K cL_law RL 7 room_1) (hL : LawX K b L xs) (hc1 : cs.1 + 1 ≤ room_1.cells) (hc2 : cs.2 + 6 ≤ room_1.slots) {k : Wd → Option (Int32 × Wd)} {i : Int32} (hk : ∀ σ : Wd, Cm K 7 (cs.1 + 1, cs.2 + 6) (k σ) σ 1363 [(0, .ref b), (1, .ref (K.G.A 0)), (2, .ref (K.G.A 102)), (3, .ref (K.G.A 120)), (4, .int i)] []) (σ : Wd) : Cm K 7 cs (f_law_17 L xs k i σ) σ 761 [(0, .ref b), (1, .ref (K.G.A 0)), (2, .ref (K.G.A 102)), (3, .ref (K.G.A 120)), (4, .int i)] [] := by
  refine r_aload_n (i := 1) hO rfl rfl dL_law_761 ?_
  refine r_aload_n (i := 0) hO rfl rfl dL_law_762 ?_
  refine r_iload hO (d := dL_law_763) rfl ?_
  refine r_iconst hO ci_1 dL_law_765 ?_
  refine r_iadd hO dL_law_766 ?_
  refine r_sld hO hL dL_law_767 ?_
  refine r_aload_n (i := 0) hO rfl rfl dL_law_768 ?_
  refine r_iload hO (d := dL_law_769) rfl ?_
  refine r_iconst hO ci_2 dL_law_771 ?_
  refine r_iadd hO dL_law_772 ?_
  refine r_sld hO hL dL_law_773 ?_
  refine k_X6_worth hO a_1173 rfl ⟨rfl, rfl, Nat.le_of_succ_le hc1, Nat.le_trans (Nat.le_add_right _ 6) hc2⟩ dL_law_774 ?_
  intro r2 σ1
  refine r_pop hO rfl dL_law_777 ?_
  refine r_aload_n (i := 2) hO rfl rfl dL_law_778 ?_
  refine r_aload_n (i := 0) hO rfl rfl dL_law_779 ?_
  refine r_iload hO (d := dL_law_780) rfl ?_
  refine r_iconst hO ci_1 dL_law_782 ?_
  refine r_iadd hO dL_law_783 ?_
  refine r_sld hO hL dL_law_784 ?_
  refine r_aload_n (i := 0) hO rfl rfl dL_law_785 ?_
  refine r_iload hO (d := dL_law_786) rfl ?_
  refine r_iconst hO ci_2 dL_law_788 ?_
  refine r_iadd hO dL_law_789 ?_
  refine r_sld hO hL dL_law_790 ?_
  refine k_X7_worth hO a_1174 rfl ⟨rfl, rfl, Nat.le_of_succ_le hc1, Nat.le_trans (Nat.le_add_right _ 6) hc2⟩ dL_law_791 ?_
  intro r4 σ3
  refine r_pop hO rfl dL_law_794 ?_
  refine r_goto (tgt := 1363) hO dL_law_795 (by decide) ?_
  exact r_jmp (r_wid (Nat.le_succ _) (Nat.le_add_right _ 6) (hk σ3)) (lsub_c rfl (lsub_c rfl (lsub_c rfl (lsub_c rfl (lsub_c rfl lsub_n)))))
def f_law_18 (L : Nat) (xs : Nat → Int32) (k : Wd → Option (Int32 × Wd)) (i : Int32) (σ : Wd) : Option (Int32 × Wd) := gd (inb (i + (1 : Int32)) L) (bd (f_X6_fewest (xs (ix (i + (1 : Int32)))) σ) fun r2 σ1 => gd (inb (i + (1 : Int32)) L) (bd (f_X7_fewest (xs (ix (i + (1 : Int32)))) σ1) fun r4 σ3 => k σ3))
set_option maxRecDepth 20000 in
set_option maxHeartbeats 1000000 in
theorem b_law_18 {K : Kt} {cs : Nat × Nat} {b L : Nat} {xs : Nat → Int32} (hO : Ok K cL_law RL 7 room_1) (hL : LawX K b L xs) (hc1 : cs.1 + 1 ≤ room_1.cells) (hc2 : cs.2 + 6 ≤ room_1.slots) {k : Wd → Option (Int32 × Wd)} {i : Int32} (hk : ∀ σ : Wd, Cm K 7 (cs.1 + 1, cs.2 + 6) (k σ) σ 1363 [(0, .ref b), (1, .ref (K.G.A 0)), (2, .ref (K.G.A 102)), (3, .ref (K.G.A 120)), (4, .int i)] []) (σ : Wd) : Cm K 7 cs (f_law_18 L xs k i σ) σ 798 [(0, .ref b), (1, .ref (K.G.A 0)), (2, .ref (K.G.A 102)), (3, .ref (K.G.A 120)), (4, .int i)] [] := by
  refine r_aload_n (i := 1) hO rfl rfl dL_law_798 ?_
  refine r_aload_n (i := 0) hO rfl rfl dL_law_799 ?_
  refine r_iload hO (d := dL_law_800) rfl ?_
  refine r_iconst hO ci_1 dL_law_802 ?_
  refine r_iadd hO dL_law_803 ?_
  refine r_sld hO hL dL_law_804 ?_
  refine k_X6_fewest hO a_1175 rfl ⟨rfl, rfl, Nat.le_of_succ_le hc1, Nat.le_trans (Nat.le_add_right _ 6) hc2⟩ dL_law_805 ?_
  intro r2 σ1
  refine r_pop hO rfl dL_law_808 ?_
  refine r_aload_n (i := 2) hO rfl rfl dL_law_809 ?_
  refine r_aload_n (i := 0) hO rfl rfl dL_law_810 ?_
  refine r_iload hO (d := dL_law_811) rfl ?_
  refine r_iconst hO ci_1 dL_law_813 ?_
  refine r_iadd hO dL_law_814 ?_
  refine r_sld hO hL dL_law_815 ?_
  refine k_X7_fewest hO a_1176 rfl ⟨rfl, rfl, Nat.le_of_succ_le hc1, Nat.le_trans (Nat.le_add_right _ 6) hc2⟩ dL_law_816 ?_
  intro r4 σ3
  refine r_pop hO rfl dL_law_819 ?_
  refine r_goto (tgt := 1363) hO dL_law_820 (by decide) ?_
  exact r_jmp (r_wid (Nat.le_succ _) (Nat.le_add_right _ 6) (hk σ3)) (lsub_c rfl (lsub_c rfl (lsub_c rfl (lsub_c rfl (lsub_c rfl lsub_n)))))
def f_law_19 (L : Nat) (xs : Nat → Int32) (k : Wd → Option (Int32 × Wd)) (i : Int32) (σ : Wd) : Option (Int32 × Wd) := gd (inb (i + (1 : Int32)) L) (gd (inb (i + (2 : Int32)) L) (bd (f_X6_plan (xs (ix (i + (1 : Int32)))) (xs (ix (i + (2 : Int32)))) σ) fun r2 σ1 => gd (inb (i + (1 : Int32)) L) (gd (inb (i + (2 : Int32)) L) (bd (f_X7_plan (xs (ix (i + (1 : Int32)))) (xs (ix (i + (2 : Int32)))) σ1) fun r4 σ3 => k σ3))))
set_option maxRecDepth 20000 in
set_option maxHeartbeats 1000000 in
theorem b_law_19 {K : Kt} {cs : Nat × Nat} {b L : Nat} {xs : Nat → Int32} (hO : Ok K cL_law RL 7 room_1) (hL : LawX K b L xs) (hc1 : cs.1 + 1 ≤ room_1.cells) (hc2 : cs.2 + 6 ≤ room_1.slots) {k : Wd → Option (Int32 × Wd)} {i : Int32} (hk : ∀ σ : Wd, Cm K 7 (cs.1 + 1, cs.2 + 6) (k σ) σ 1363 [(0, .ref b), (1, .ref (K.G.A 0)), (2, .ref (K.G.A 102)), (3, .ref (K.G.A 120)), (4, .int i)] []) (σ : Wd) : Cm K 7 cs (f_law_19 L xs k i σ) σ 823 [(0, .ref b), (1, .ref (K.G.A 0)), (2, .ref (K.G.A 102)), (3, .ref (K.G.A 120)), (4, .int i)] [] := by
  refine r_aload_n (i := 1) hO rfl rfl dL_law_823 ?_
  refine r_aload_n (i := 0) hO rfl rfl dL_law_824 ?_
  refine r_iload hO (d := dL_law_825) rfl ?_
  refine r_iconst hO ci_1 dL_law_827 ?_
  refine r_iadd hO dL_law_828 ?_
  refine r_sld hO hL dL_law_829 ?_
  refine r_aload_n (i := 0) hO rfl rfl dL_law_830 ?_
  refine r_iload hO (d := dL_law_831) rfl ?_
  refine r_iconst hO ci_2 dL_law_833 ?_
  refine r_iadd hO dL_law_834 ?_
  refine r_sld hO hL dL_law_835 ?_
  refine k_X6_plan hO a_1177 rfl ⟨rfl, rfl, Nat.le_of_succ_le hc1, Nat.le_trans (Nat.le_add_right _ 6) hc2⟩ dL_law_836 ?_
  intro r2 σ1
  refine r_pop hO rfl dL_law_839 ?_
  refine r_aload_n (i := 2) hO rfl rfl dL_law_840 ?_
  refine r_aload_n (i := 0) hO rfl rfl dL_law_841 ?_
  refine r_iload hO (d := dL_law_842) rfl ?_
  refine r_iconst hO ci_1 dL_law_844 ?_
  refine r_iadd hO dL_law_845 ?_
  refine r_sld hO hL dL_law_846 ?_
  refine r_aload_n (i := 0) hO rfl rfl dL_law_847 ?_
  refine r_iload hO (d := dL_law_848) rfl ?_
  refine r_iconst hO ci_2 dL_law_850 ?_
  refine r_iadd hO dL_law_851 ?_
  refine r_sld hO hL dL_law_852 ?_
  refine k_X7_plan hO a_1178 rfl ⟨rfl, rfl, Nat.le_of_succ_le hc1, Nat.le_trans (Nat.le_add_right _ 6) hc2⟩ dL_law_853 ?_
  intro r4 σ3
  refine r_pop hO rfl dL_law_856 ?_
  refine r_goto (tgt := 1363) hO dL_law_857 (by decide) ?_
  exact r_jmp (r_wid (Nat.le_succ _) (Nat.le_add_right _ 6) (hk σ3)) (lsub_c rfl (lsub_c rfl (lsub_c rfl (lsub_c rfl (lsub_c rfl lsub_n)))))
def f_law_20 (L : Nat) (xs : Nat → Int32) (k : Wd → Option (Int32 × Wd)) (i : Int32) (σ : Wd) : Option (Int32 × Wd) := gd (inb (i + (1 : Int32)) L) (bd (f_X6_planned (xs (ix (i + (1 : Int32)))) σ) fun r2 σ1 => gd (inb (i + (1 : Int32)) L) (bd (f_X7_planned (xs (ix (i + (1 : Int32)))) σ1) fun r4 σ3 => k σ3))
set_option maxRecDepth 20000 in
set_option maxHeartbeats 1000000 in
theorem b_law_20 {K : Kt} {cs : Nat × Nat} {b L : Nat} {xs : Nat → Int32} (hO : Ok K cL_law RL 7 room_1) (hL : LawX K b L xs) (hc1 : cs.1 + 1 ≤ room_1.cells) (hc2 : cs.2 + 6 ≤ room_1.slots) {k : Wd → Option (Int32 × Wd)} {i : Int32} (hk : ∀ σ : Wd, Cm K 7 (cs.1 + 1, cs.2 + 6) (k σ) σ 1363 [(0, .ref b), (1, .ref (K.G.A 0)), (2, .ref (K.G.A 102)), (3, .ref (K.G.A 120)), (4, .int i)] []) (σ : Wd) : Cm K 7 cs (f_law_20 L xs k i σ) σ 860 [(0, .ref b), (1, .ref (K.G.A 0)), (2, .ref (K.G.A 102)), (3, .ref (K.G.A 120)), (4, .int i)] [] := by
  refine r_aload_n (i := 1) hO rfl rfl dL_law_860 ?_
  refine r_aload_n (i := 0) hO rfl rfl dL_law_861 ?_
  refine r_iload hO (d := dL_law_862) rfl ?_
  refine r_iconst hO ci_1 dL_law_864 ?_
  refine r_iadd hO dL_law_865 ?_
  refine r_sld hO hL dL_law_866 ?_
  refine k_X6_planned hO a_1179 rfl ⟨rfl, rfl, Nat.le_of_succ_le hc1, Nat.le_trans (Nat.le_add_right _ 6) hc2⟩ dL_law_867 ?_
  intro r2 σ1
  refine r_pop hO rfl dL_law_870 ?_
  refine r_aload_n (i := 2) hO rfl rfl dL_law_871 ?_
  refine r_aload_n (i := 0) hO rfl rfl dL_law_872 ?_
  refine r_iload hO (d := dL_law_873) rfl ?_
  refine r_iconst hO ci_1 dL_law_875 ?_
  refine r_iadd hO dL_law_876 ?_
  refine r_sld hO hL dL_law_877 ?_
  refine k_X7_planned hO a_1180 rfl ⟨rfl, rfl, Nat.le_of_succ_le hc1, Nat.le_trans (Nat.le_add_right _ 6) hc2⟩ dL_law_878 ?_
  intro r4 σ3
  refine r_pop hO rfl dL_law_881 ?_
  refine r_goto (tgt := 1363) hO dL_law_882 (by decide) ?_
  exact r_jmp (r_wid (Nat.le_succ _) (Nat.le_add_right _ 6) (hk σ3)) (lsub_c rfl (lsub_c rfl (lsub_c rfl (lsub_c rfl (lsub_c rfl lsub_n)))))
def f_law_21 (L : Nat) (xs : Nat → Int32) (k : Wd → Option (Int32 × Wd)) (i : Int32) (σ : Wd) : Option (Int32 × Wd) := bd (f_X6_move σ) fun r2 σ1 => bd (f_X7_move σ1) fun r4 σ3 => k σ3
set_option maxRecDepth 20000 in
set_option maxHeartbeats 1000000 in
theorem b_law_21 {K : Kt} {cs : Nat × Nat} {b L : Nat} {xs : Nat → Int32} (hO : Ok K cL_law RL 7 room_1) (hL : LawX K b L xs) (hc1 : cs.1 + 1 ≤ room_1.cells) (hc2 : cs.2 + 6 ≤ room_1.slots) {k : Wd → Option (Int32 × Wd)} {i : Int32} (hk : ∀ σ : Wd, Cm K 7 (cs.1 + 1, cs.2 + 6) (k σ) σ 1363 [(0, .ref b), (1, .ref (K.G.A 0)), (2, .ref (K.G.A 102)), (3, .ref (K.G.A 120)), (4, .int i)] []) (σ : Wd) : Cm K 7 cs (f_law_21 L xs k i σ) σ 885 [(0, .ref b), (1, .ref (K.G.A 0)), (2, .ref (K.G.A 102)), (3, .ref (K.G.A 120)), (4, .int i)] [] := by
  refine r_aload_n (i := 1) hO rfl rfl dL_law_885 ?_
  refine k_X6_move hO a_1181 rfl ⟨rfl, rfl, Nat.le_of_succ_le hc1, Nat.le_trans (Nat.le_add_right _ 6) hc2⟩ dL_law_886 ?_
  intro r2 σ1
  refine r_pop hO rfl dL_law_889 ?_
  refine r_aload_n (i := 2) hO rfl rfl dL_law_890 ?_
  refine k_X7_move hO a_1182 rfl ⟨rfl, rfl, Nat.le_of_succ_le hc1, Nat.le_trans (Nat.le_add_right _ 6) hc2⟩ dL_law_891 ?_
  intro r4 σ3
  refine r_pop hO rfl dL_law_894 ?_
  refine r_goto (tgt := 1363) hO dL_law_895 (by decide) ?_
  exact r_jmp (r_wid (Nat.le_succ _) (Nat.le_add_right _ 6) (hk σ3)) (lsub_c rfl (lsub_c rfl (lsub_c rfl (lsub_c rfl (lsub_c rfl lsub_n)))))
def f_law_22 (L : Nat) (xs : Nat → Int32) (k : Wd → Option (Int32 × Wd)) (i : Int32) (σ : Wd) : Option (Int32 × Wd) := gd (inb (i + (1 : Int32)) L) (bd (f_X6_now (xs (ix (i + (1 : Int32)))) σ) fun r2 σ1 => gd (inb (i + (1 : Int32)) L) (bd (f_X7_now (xs (ix (i + (1 : Int32)))) σ1) fun r4 σ3 => k σ3))
set_option maxRecDepth 20000 in
set_option maxHeartbeats 1000000 in
theorem b_law_22 {K : Kt} {cs : Nat × Nat} {b L : Nat} {xs : Nat → Int32} (hO : Ok K cL_law RL 7 room_1) (hL : LawX K b L xs) (hc1 : cs.1 + 1 ≤ room_1.cells) (hc2 : cs.2 + 6 ≤ room_1.slots) {k : Wd → Option (Int32 × Wd)} {i : Int32} (hk : ∀ σ : Wd, Cm K 7 (cs.1 + 1, cs.2 + 6) (k σ) σ 1363 [(0, .ref b), (1, .ref (K.G.A 0)), (2, .ref (K.G.A 102)), (3, .ref (K.G.A 120)), (4, .int i)] []) (σ : Wd) : Cm K 7 cs (f_law_22 L xs k i σ) σ 898 [(0, .ref b), (1, .ref (K.G.A 0)), (2, .ref (K.G.A 102)), (3, .ref (K.G.A 120)), (4, .int i)] [] := by
  refine r_aload_n (i := 1) hO rfl rfl dL_law_898 ?_
  refine r_aload_n (i := 0) hO rfl rfl dL_law_899 ?_
  refine r_iload hO (d := dL_law_900) rfl ?_
  refine r_iconst hO ci_1 dL_law_902 ?_
  refine r_iadd hO dL_law_903 ?_
  refine r_sld hO hL dL_law_904 ?_
  refine k_X6_now hO a_1183 rfl ⟨rfl, rfl, Nat.le_of_succ_le hc1, Nat.le_trans (Nat.le_add_right _ 6) hc2⟩ dL_law_905 ?_
  intro r2 σ1
  refine r_pop hO rfl dL_law_908 ?_
  refine r_aload_n (i := 2) hO rfl rfl dL_law_909 ?_
  refine r_aload_n (i := 0) hO rfl rfl dL_law_910 ?_
  refine r_iload hO (d := dL_law_911) rfl ?_
  refine r_iconst hO ci_1 dL_law_913 ?_
  refine r_iadd hO dL_law_914 ?_
  refine r_sld hO hL dL_law_915 ?_
  refine k_X7_now hO a_1184 rfl ⟨rfl, rfl, Nat.le_of_succ_le hc1, Nat.le_trans (Nat.le_add_right _ 6) hc2⟩ dL_law_916 ?_
  intro r4 σ3
  refine r_pop hO rfl dL_law_919 ?_
  refine r_goto (tgt := 1363) hO dL_law_920 (by decide) ?_
  exact r_jmp (r_wid (Nat.le_succ _) (Nat.le_add_right _ 6) (hk σ3)) (lsub_c rfl (lsub_c rfl (lsub_c rfl (lsub_c rfl (lsub_c rfl lsub_n)))))
def f_law_23 (L : Nat) (xs : Nat → Int32) (k : Wd → Option (Int32 × Wd)) (i : Int32) (σ : Wd) : Option (Int32 × Wd) := gd (inb (i + (1 : Int32)) L) (gd (inb (i + (2 : Int32)) L) (bd (f_X6_part (xs (ix (i + (1 : Int32)))) (xs (ix (i + (2 : Int32)))) σ) fun r2 σ1 => gd (inb (i + (1 : Int32)) L) (gd (inb (i + (2 : Int32)) L) (bd (f_X7_part (xs (ix (i + (1 : Int32)))) (xs (ix (i + (2 : Int32)))) σ1) fun r4 σ3 => k σ3))))
set_option maxRecDepth 20000 in
set_option maxHeartbeats 1000000 in
theorem b_law_23 {K : Kt} {cs : Nat × Nat} {b L : Nat} {xs : Nat → Int32} (hO : Ok K cL_law RL 7 room_1) (hL : LawX K b L xs) (hc1 : cs.1 + 1 ≤ room_1.cells) (hc2 : cs.2 + 6 ≤ room_1.slots) {k : Wd → Option (Int32 × Wd)} {i : Int32} (hk : ∀ σ : Wd, Cm K 7 (cs.1 + 1, cs.2 + 6) (k σ) σ 1363 [(0, .ref b), (1, .ref (K.G.A 0)), (2, .ref (K.G.A 102)), (3, .ref (K.G.A 120)), (4, .int i)] []) (σ : Wd) : Cm K 7 cs (f_law_23 L xs k i σ) σ 923 [(0, .ref b), (1, .ref (K.G.A 0)), (2, .ref (K.G.A 102)), (3, .ref (K.G.A 120)), (4, .int i)] [] := by
  refine r_aload_n (i := 1) hO rfl rfl dL_law_923 ?_
  refine r_aload_n (i := 0) hO rfl rfl dL_law_924 ?_
  refine r_iload hO (d := dL_law_925) rfl ?_
  refine r_iconst hO ci_1 dL_law_927 ?_
  refine r_iadd hO dL_law_928 ?_
  refine r_sld hO hL dL_law_929 ?_
  refine r_aload_n (i := 0) hO rfl rfl dL_law_930 ?_
  refine r_iload hO (d := dL_law_931) rfl ?_
  refine r_iconst hO ci_2 dL_law_933 ?_
  refine r_iadd hO dL_law_934 ?_
  refine r_sld hO hL dL_law_935 ?_
  refine k_X6_part hO a_1185 rfl ⟨rfl, rfl, Nat.le_of_succ_le hc1, Nat.le_trans (Nat.le_add_right _ 6) hc2⟩ dL_law_936 ?_
  intro r2 σ1
  refine r_pop hO rfl dL_law_939 ?_
  refine r_aload_n (i := 2) hO rfl rfl dL_law_940 ?_
  refine r_aload_n (i := 0) hO rfl rfl dL_law_941 ?_
  refine r_iload hO (d := dL_law_942) rfl ?_
  refine r_iconst hO ci_1 dL_law_944 ?_
  refine r_iadd hO dL_law_945 ?_
  refine r_sld hO hL dL_law_946 ?_
  refine r_aload_n (i := 0) hO rfl rfl dL_law_947 ?_
  refine r_iload hO (d := dL_law_948) rfl ?_
  refine r_iconst hO ci_2 dL_law_950 ?_
  refine r_iadd hO dL_law_951 ?_
  refine r_sld hO hL dL_law_952 ?_
  refine k_X7_part hO a_1186 rfl ⟨rfl, rfl, Nat.le_of_succ_le hc1, Nat.le_trans (Nat.le_add_right _ 6) hc2⟩ dL_law_953 ?_
  intro r4 σ3
  refine r_pop hO rfl dL_law_956 ?_
  refine r_goto (tgt := 1363) hO dL_law_957 (by decide) ?_
  exact r_jmp (r_wid (Nat.le_succ _) (Nat.le_add_right _ 6) (hk σ3)) (lsub_c rfl (lsub_c rfl (lsub_c rfl (lsub_c rfl (lsub_c rfl lsub_n)))))
def f_law_24 (L : Nat) (xs : Nat → Int32) (k : Wd → Option (Int32 × Wd)) (i : Int32) (σ : Wd) : Option (Int32 × Wd) := bd (f_X6_entries σ) fun r2 σ1 => bd (f_X7_entries σ1) fun r4 σ3 => k σ3
set_option maxRecDepth 20000 in
set_option maxHeartbeats 1000000 in
theorem b_law_24 {K : Kt} {cs : Nat × Nat} {b L : Nat} {xs : Nat → Int32} (hO : Ok K cL_law RL 7 room_1) (hL : LawX K b L xs) (hc1 : cs.1 + 1 ≤ room_1.cells) (hc2 : cs.2 + 6 ≤ room_1.slots) {k : Wd → Option (Int32 × Wd)} {i : Int32} (hk : ∀ σ : Wd, Cm K 7 (cs.1 + 1, cs.2 + 6) (k σ) σ 1363 [(0, .ref b), (1, .ref (K.G.A 0)), (2, .ref (K.G.A 102)), (3, .ref (K.G.A 120)), (4, .int i)] []) (σ : Wd) : Cm K 7 cs (f_law_24 L xs k i σ) σ 960 [(0, .ref b), (1, .ref (K.G.A 0)), (2, .ref (K.G.A 102)), (3, .ref (K.G.A 120)), (4, .int i)] [] := by
  refine r_aload_n (i := 1) hO rfl rfl dL_law_960 ?_
  refine k_X6_entries hO a_1187 rfl ⟨rfl, rfl, Nat.le_of_succ_le hc1, Nat.le_trans (Nat.le_add_right _ 6) hc2⟩ dL_law_961 ?_
  intro r2 σ1
  refine r_pop hO rfl dL_law_964 ?_
  refine r_aload_n (i := 2) hO rfl rfl dL_law_965 ?_
  refine k_X7_entries hO a_1188 rfl ⟨rfl, rfl, Nat.le_of_succ_le hc1, Nat.le_trans (Nat.le_add_right _ 6) hc2⟩ dL_law_966 ?_
  intro r4 σ3
  refine r_pop hO rfl dL_law_969 ?_
  refine r_goto (tgt := 1363) hO dL_law_970 (by decide) ?_
  exact r_jmp (r_wid (Nat.le_succ _) (Nat.le_add_right _ 6) (hk σ3)) (lsub_c rfl (lsub_c rfl (lsub_c rfl (lsub_c rfl (lsub_c rfl lsub_n)))))
def f_law_25 (L : Nat) (xs : Nat → Int32) (k : Wd → Option (Int32 × Wd)) (i : Int32) (σ : Wd) : Option (Int32 × Wd) := gd (inb (i + (1 : Int32)) L) (gd (inb (i + (2 : Int32)) L) (bd (f_X6_entry (xs (ix (i + (1 : Int32)))) (xs (ix (i + (2 : Int32)))) σ) fun r2 σ1 => gd (inb (i + (1 : Int32)) L) (gd (inb (i + (2 : Int32)) L) (bd (f_X7_entry (xs (ix (i + (1 : Int32)))) (xs (ix (i + (2 : Int32)))) σ1) fun r4 σ3 => k σ3))))
set_option maxRecDepth 20000 in
set_option maxHeartbeats 1000000 in
theorem b_law_25 {K : Kt} {cs : Nat × Nat} {b L : Nat} {xs : Nat → Int32} (hO : Ok K cL_law RL 7 room_1) (hL : LawX K b L xs) (hc1 : cs.1 + 1 ≤ room_1.cells) (hc2 : cs.2 + 6 ≤ room_1.slots) {k : Wd → Option (Int32 × Wd)} {i : Int32} (hk : ∀ σ : Wd, Cm K 7 (cs.1 + 1, cs.2 + 6) (k σ) σ 1363 [(0, .ref b), (1, .ref (K.G.A 0)), (2, .ref (K.G.A 102)), (3, .ref (K.G.A 120)), (4, .int i)] []) (σ : Wd) : Cm K 7 cs (f_law_25 L xs k i σ) σ 973 [(0, .ref b), (1, .ref (K.G.A 0)), (2, .ref (K.G.A 102)), (3, .ref (K.G.A 120)), (4, .int i)] [] := by
  refine r_aload_n (i := 1) hO rfl rfl dL_law_973 ?_
  refine r_aload_n (i := 0) hO rfl rfl dL_law_974 ?_
  refine r_iload hO (d := dL_law_975) rfl ?_
  refine r_iconst hO ci_1 dL_law_977 ?_
  refine r_iadd hO dL_law_978 ?_
  refine r_sld hO hL dL_law_979 ?_
  refine r_aload_n (i := 0) hO rfl rfl dL_law_980 ?_
  refine r_iload hO (d := dL_law_981) rfl ?_
  refine r_iconst hO ci_2 dL_law_983 ?_
  refine r_iadd hO dL_law_984 ?_
  refine r_sld hO hL dL_law_985 ?_
  refine k_X6_entry hO a_1189 rfl ⟨rfl, rfl, Nat.le_of_succ_le hc1, Nat.le_trans (Nat.le_add_right _ 6) hc2⟩ dL_law_986 ?_
  intro r2 σ1
  refine r_pop hO rfl dL_law_989 ?_
  refine r_aload_n (i := 2) hO rfl rfl dL_law_990 ?_
  refine r_aload_n (i := 0) hO rfl rfl dL_law_991 ?_
  refine r_iload hO (d := dL_law_992) rfl ?_
  refine r_iconst hO ci_1 dL_law_994 ?_
  refine r_iadd hO dL_law_995 ?_
  refine r_sld hO hL dL_law_996 ?_
  refine r_aload_n (i := 0) hO rfl rfl dL_law_997 ?_
  refine r_iload hO (d := dL_law_998) rfl ?_
  refine r_iconst hO ci_2 dL_law_1000 ?_
  refine r_iadd hO dL_law_1001 ?_
  refine r_sld hO hL dL_law_1002 ?_
  refine k_X7_entry hO a_1190 rfl ⟨rfl, rfl, Nat.le_of_succ_le hc1, Nat.le_trans (Nat.le_add_right _ 6) hc2⟩ dL_law_1003 ?_
  intro r4 σ3
  refine r_pop hO rfl dL_law_1006 ?_
  refine r_goto (tgt := 1363) hO dL_law_1007 (by decide) ?_
  exact r_jmp (r_wid (Nat.le_succ _) (Nat.le_add_right _ 6) (hk σ3)) (lsub_c rfl (lsub_c rfl (lsub_c rfl (lsub_c rfl (lsub_c rfl lsub_n)))))
def f_law_26 (L : Nat) (xs : Nat → Int32) (k : Wd → Option (Int32 × Wd)) (i : Int32) (σ : Wd) : Option (Int32 × Wd) := gd (inb (i + (1 : Int32)) L) (gd (inb (i + (2 : Int32)) L) (bd (f_X6_bought (xs (ix (i + (1 : Int32)))) (xs (ix (i + (2 : Int32)))) σ) fun r2 σ1 => gd (inb (i + (1 : Int32)) L) (gd (inb (i + (2 : Int32)) L) (bd (f_X7_bought (xs (ix (i + (1 : Int32)))) (xs (ix (i + (2 : Int32)))) σ1) fun r4 σ3 => k σ3))))
set_option maxRecDepth 20000 in
set_option maxHeartbeats 1000000 in
theorem b_law_26 {K : Kt} {cs : Nat × Nat} {b L : Nat} {xs : Nat → Int32} (hO : Ok K cL_law RL 7 room_1) (hL : LawX K b L xs) (hc1 : cs.1 + 1 ≤ room_1.cells) (hc2 : cs.2 + 6 ≤ room_1.slots) {k : Wd → Option (Int32 × Wd)} {i : Int32} (hk : ∀ σ : Wd, Cm K 7 (cs.1 + 1, cs.2 + 6) (k σ) σ 1363 [(0, .ref b), (1, .ref (K.G.A 0)), (2, .ref (K.G.A 102)), (3, .ref (K.G.A 120)), (4, .int i)] []) (σ : Wd) : Cm K 7 cs (f_law_26 L xs k i σ) σ 1010 [(0, .ref b), (1, .ref (K.G.A 0)), (2, .ref (K.G.A 102)), (3, .ref (K.G.A 120)), (4, .int i)] [] := by
  refine r_aload_n (i := 1) hO rfl rfl dL_law_1010 ?_
  refine r_aload_n (i := 0) hO rfl rfl dL_law_1011 ?_
  refine r_iload hO (d := dL_law_1012) rfl ?_
  refine r_iconst hO ci_1 dL_law_1014 ?_
  refine r_iadd hO dL_law_1015 ?_
  refine r_sld hO hL dL_law_1016 ?_
  refine r_aload_n (i := 0) hO rfl rfl dL_law_1017 ?_
  refine r_iload hO (d := dL_law_1018) rfl ?_
  refine r_iconst hO ci_2 dL_law_1020 ?_
  refine r_iadd hO dL_law_1021 ?_
  refine r_sld hO hL dL_law_1022 ?_
  refine k_X6_bought hO a_1191 rfl ⟨rfl, rfl, Nat.le_of_succ_le hc1, Nat.le_trans (Nat.le_add_right _ 6) hc2⟩ dL_law_1023 ?_
  intro r2 σ1
  refine r_pop hO rfl dL_law_1026 ?_
  refine r_aload_n (i := 2) hO rfl rfl dL_law_1027 ?_
  refine r_aload_n (i := 0) hO rfl rfl dL_law_1028 ?_
  refine r_iload hO (d := dL_law_1029) rfl ?_
  refine r_iconst hO ci_1 dL_law_1031 ?_
  refine r_iadd hO dL_law_1032 ?_
  refine r_sld hO hL dL_law_1033 ?_
  refine r_aload_n (i := 0) hO rfl rfl dL_law_1034 ?_
  refine r_iload hO (d := dL_law_1035) rfl ?_
  refine r_iconst hO ci_2 dL_law_1037 ?_
  refine r_iadd hO dL_law_1038 ?_
  refine r_sld hO hL dL_law_1039 ?_
  refine k_X7_bought hO a_1192 rfl ⟨rfl, rfl, Nat.le_of_succ_le hc1, Nat.le_trans (Nat.le_add_right _ 6) hc2⟩ dL_law_1040 ?_
  intro r4 σ3
  refine r_pop hO rfl dL_law_1043 ?_
  refine r_goto (tgt := 1363) hO dL_law_1044 (by decide) ?_
  exact r_jmp (r_wid (Nat.le_succ _) (Nat.le_add_right _ 6) (hk σ3)) (lsub_c rfl (lsub_c rfl (lsub_c rfl (lsub_c rfl (lsub_c rfl lsub_n)))))
def f_law_27 (L : Nat) (xs : Nat → Int32) (k : Wd → Option (Int32 × Wd)) (i : Int32) (σ : Wd) : Option (Int32 × Wd) := gd (inb (i + (1 : Int32)) L) (bd (f_X6_will (xs (ix (i + (1 : Int32)))) σ) fun r2 σ1 => gd (inb (i + (1 : Int32)) L) (bd (f_X7_will (xs (ix (i + (1 : Int32)))) σ1) fun r4 σ3 => k σ3))
set_option maxRecDepth 20000 in
set_option maxHeartbeats 1000000 in
theorem b_law_27 {K : Kt} {cs : Nat × Nat} {b L : Nat} {xs : Nat → Int32} (hO : Ok K cL_law RL 7 room_1) (hL : LawX K b L xs) (hc1 : cs.1 + 1 ≤ room_1.cells) (hc2 : cs.2 + 6 ≤ room_1.slots) {k : Wd → Option (Int32 × Wd)} {i : Int32} (hk : ∀ σ : Wd, Cm K 7 (cs.1 + 1, cs.2 + 6) (k σ) σ 1363 [(0, .ref b), (1, .ref (K.G.A 0)), (2, .ref (K.G.A 102)), (3, .ref (K.G.A 120)), (4, .int i)] []) (σ : Wd) : Cm K 7 cs (f_law_27 L xs k i σ) σ 1047 [(0, .ref b), (1, .ref (K.G.A 0)), (2, .ref (K.G.A 102)), (3, .ref (K.G.A 120)), (4, .int i)] [] := by
  refine r_aload_n (i := 1) hO rfl rfl dL_law_1047 ?_
  refine r_aload_n (i := 0) hO rfl rfl dL_law_1048 ?_
  refine r_iload hO (d := dL_law_1049) rfl ?_
  refine r_iconst hO ci_1 dL_law_1051 ?_
  refine r_iadd hO dL_law_1052 ?_
  refine r_sld hO hL dL_law_1053 ?_
  refine k_X6_will hO a_1193 rfl ⟨rfl, rfl, Nat.le_of_succ_le hc1, Nat.le_trans (Nat.le_add_right _ 6) hc2⟩ dL_law_1054 ?_
  intro r2 σ1
  refine r_pop hO rfl dL_law_1057 ?_
  refine r_aload_n (i := 2) hO rfl rfl dL_law_1058 ?_
  refine r_aload_n (i := 0) hO rfl rfl dL_law_1059 ?_
  refine r_iload hO (d := dL_law_1060) rfl ?_
  refine r_iconst hO ci_1 dL_law_1062 ?_
  refine r_iadd hO dL_law_1063 ?_
  refine r_sld hO hL dL_law_1064 ?_
  refine k_X7_will hO a_1194 rfl ⟨rfl, rfl, Nat.le_of_succ_le hc1, Nat.le_trans (Nat.le_add_right _ 6) hc2⟩ dL_law_1065 ?_
  intro r4 σ3
  refine r_pop hO rfl dL_law_1068 ?_
  refine r_goto (tgt := 1363) hO dL_law_1069 (by decide) ?_
  exact r_jmp (r_wid (Nat.le_succ _) (Nat.le_add_right _ 6) (hk σ3)) (lsub_c rfl (lsub_c rfl (lsub_c rfl (lsub_c rfl (lsub_c rfl lsub_n)))))
def f_law_28 (L : Nat) (xs : Nat → Int32) (k : Wd → Option (Int32 × Wd)) (i : Int32) (σ : Wd) : Option (Int32 × Wd) := gd (inb (i + (1 : Int32)) L) (bd (f_X6_adopt (xs (ix (i + (1 : Int32)))) σ) fun r2 σ1 => gd (inb (i + (1 : Int32)) L) (bd (f_X7_adopt (xs (ix (i + (1 : Int32)))) σ1) fun r4 σ3 => k σ3))
set_option maxRecDepth 20000 in
set_option maxHeartbeats 1000000 in
theorem b_law_28 {K : Kt} {cs : Nat × Nat} {b L : Nat} {xs : Nat → Int32} (hO : Ok K cL_law RL 7 room_1) (hL : LawX K b L xs) (hc1 : cs.1 + 1 ≤ room_1.cells) (hc2 : cs.2 + 6 ≤ room_1.slots) {k : Wd → Option (Int32 × Wd)} {i : Int32} (hk : ∀ σ : Wd, Cm K 7 (cs.1 + 1, cs.2 + 6) (k σ) σ 1363 [(0, .ref b), (1, .ref (K.G.A 0)), (2, .ref (K.G.A 102)), (3, .ref (K.G.A 120)), (4, .int i)] []) (σ : Wd) : Cm K 7 cs (f_law_28 L xs k i σ) σ 1072 [(0, .ref b), (1, .ref (K.G.A 0)), (2, .ref (K.G.A 102)), (3, .ref (K.G.A 120)), (4, .int i)] [] := by
  refine r_aload_n (i := 1) hO rfl rfl dL_law_1072 ?_
  refine r_aload_n (i := 0) hO rfl rfl dL_law_1073 ?_
  refine r_iload hO (d := dL_law_1074) rfl ?_
  refine r_iconst hO ci_1 dL_law_1076 ?_
  refine r_iadd hO dL_law_1077 ?_
  refine r_sld hO hL dL_law_1078 ?_
  refine k_X6_adopt hO a_1195 rfl ⟨rfl, rfl, Nat.le_of_succ_le hc1, Nat.le_trans (Nat.le_add_right _ 6) hc2⟩ dL_law_1079 ?_
  intro r2 σ1
  refine r_pop hO rfl dL_law_1082 ?_
  refine r_aload_n (i := 2) hO rfl rfl dL_law_1083 ?_
  refine r_aload_n (i := 0) hO rfl rfl dL_law_1084 ?_
  refine r_iload hO (d := dL_law_1085) rfl ?_
  refine r_iconst hO ci_1 dL_law_1087 ?_
  refine r_iadd hO dL_law_1088 ?_
  refine r_sld hO hL dL_law_1089 ?_
  refine k_X7_adopt hO a_1196 rfl ⟨rfl, rfl, Nat.le_of_succ_le hc1, Nat.le_trans (Nat.le_add_right _ 6) hc2⟩ dL_law_1090 ?_
  intro r4 σ3
  refine r_pop hO rfl dL_law_1093 ?_
  refine r_goto (tgt := 1363) hO dL_law_1094 (by decide) ?_
  exact r_jmp (r_wid (Nat.le_succ _) (Nat.le_add_right _ 6) (hk σ3)) (lsub_c rfl (lsub_c rfl (lsub_c rfl (lsub_c rfl (lsub_c rfl lsub_n)))))
def f_law_29 (L : Nat) (xs : Nat → Int32) (k : Wd → Option (Int32 × Wd)) (i : Int32) (σ : Wd) : Option (Int32 × Wd) := gd (inb (i + (1 : Int32)) L) (gd (inb (i + (2 : Int32)) L) (bd (f_X6_fee (xs (ix (i + (1 : Int32)))) (xs (ix (i + (2 : Int32)))) σ) fun r2 σ1 => gd (inb (i + (1 : Int32)) L) (gd (inb (i + (2 : Int32)) L) (bd (f_X7_fee (xs (ix (i + (1 : Int32)))) (xs (ix (i + (2 : Int32)))) σ1) fun r4 σ3 => k σ3))))
set_option maxRecDepth 20000 in
set_option maxHeartbeats 1000000 in
theorem b_law_29 {K : Kt} {cs : Nat × Nat} {b L : Nat} {xs : Nat → Int32} (hO : Ok K cL_law RL 7 room_1) (hL : LawX K b L xs) (hc1 : cs.1 + 1 ≤ room_1.cells) (hc2 : cs.2 + 6 ≤ room_1.slots) {k : Wd → Option (Int32 × Wd)} {i : Int32} (hk : ∀ σ : Wd, Cm K 7 (cs.1 + 1, cs.2 + 6) (k σ) σ 1363 [(0, .ref b), (1, .ref (K.G.A 0)), (2, .ref (K.G.A 102)), (3, .ref (K.G.A 120)), (4, .int i)] []) (σ : Wd) : Cm K 7 cs (f_law_29 L xs k i σ) σ 1097 [(0, .ref b), (1, .ref (K.G.A 0)), (2, .ref (K.G.A 102)), (3, .ref (K.G.A 120)), (4, .int i)] [] := by
  refine r_aload_n (i := 1) hO rfl rfl dL_law_1097 ?_
  refine r_aload_n (i := 0) hO rfl rfl dL_law_1098 ?_
  refine r_iload hO (d := dL_law_1099) rfl ?_
  refine r_iconst hO ci_1 dL_law_1101 ?_
  refine r_iadd hO dL_law_1102 ?_
  refine r_sld hO hL dL_law_1103 ?_
  refine r_aload_n (i := 0) hO rfl rfl dL_law_1104 ?_
  refine r_iload hO (d := dL_law_1105) rfl ?_
  refine r_iconst hO ci_2 dL_law_1107 ?_
  refine r_iadd hO dL_law_1108 ?_
  refine r_sld hO hL dL_law_1109 ?_
  refine k_X6_fee hO a_1197 rfl ⟨rfl, rfl, Nat.le_of_succ_le hc1, Nat.le_trans (Nat.le_add_right _ 6) hc2⟩ dL_law_1110 ?_
  intro r2 σ1
  refine r_pop hO rfl dL_law_1113 ?_
  refine r_aload_n (i := 2) hO rfl rfl dL_law_1114 ?_
  refine r_aload_n (i := 0) hO rfl rfl dL_law_1115 ?_
  refine r_iload hO (d := dL_law_1116) rfl ?_
  refine r_iconst hO ci_1 dL_law_1118 ?_
  refine r_iadd hO dL_law_1119 ?_
  refine r_sld hO hL dL_law_1120 ?_
  refine r_aload_n (i := 0) hO rfl rfl dL_law_1121 ?_
  refine r_iload hO (d := dL_law_1122) rfl ?_
  refine r_iconst hO ci_2 dL_law_1124 ?_
  refine r_iadd hO dL_law_1125 ?_
  refine r_sld hO hL dL_law_1126 ?_
  refine k_X7_fee hO a_1198 rfl ⟨rfl, rfl, Nat.le_of_succ_le hc1, Nat.le_trans (Nat.le_add_right _ 6) hc2⟩ dL_law_1127 ?_
  intro r4 σ3
  refine r_pop hO rfl dL_law_1130 ?_
  refine r_goto (tgt := 1363) hO dL_law_1131 (by decide) ?_
  exact r_jmp (r_wid (Nat.le_succ _) (Nat.le_add_right _ 6) (hk σ3)) (lsub_c rfl (lsub_c rfl (lsub_c rfl (lsub_c rfl (lsub_c rfl lsub_n)))))
def f_law_30 (L : Nat) (xs : Nat → Int32) (k : Wd → Option (Int32 × Wd)) (i : Int32) (σ : Wd) : Option (Int32 × Wd) := gd (inb (i + (1 : Int32)) L) (gd (inb (i + (2 : Int32)) L) (gd (inb (i + (3 : Int32)) L) (bd (f_X6_resize (xs (ix (i + (1 : Int32)))) (xs (ix (i + (2 : Int32)))) (xs (ix (i + (3 : Int32)))) σ) fun r2 σ1 => gd (inb (i + (1 : Int32)) L) (gd (inb (i + (2 : Int32)) L) (gd (inb (i + (3 : Int32)) L) (bd (f_X7_resize (xs (ix (i + (1 : Int32)))) (xs (ix (i + (2 : Int32)))) (xs (ix (i + (3 : Int32)))) σ1) fun r4 σ3 => k σ3))))))
set_option maxRecDepth 20000 in
set_option maxHeartbeats 1000000 in
theorem b_law_30 {K : Kt} {cs : Nat × Nat} {b L : Nat} {xs : Nat → Int32} (hO : Ok K cL_law RL 7 room_1) (hL : LawX K b L xs) (hc1 : cs.1 + 1 ≤ room_1.cells) (hc2 : cs.2 + 6 ≤ room_1.slots) {k : Wd → Option (Int32 × Wd)} {i : Int32} (hk : ∀ σ : Wd, Cm K 7 (cs.1 + 1, cs.2 + 6) (k σ) σ 1363 [(0, .ref b), (1, .ref (K.G.A 0)), (2, .ref (K.G.A 102)), (3, .ref (K.G.A 120)), (4, .int i)] []) (σ : Wd) : Cm K 7 cs (f_law_30 L xs k i σ) σ 1134 [(0, .ref b), (1, .ref (K.G.A 0)), (2, .ref (K.G.A 102)), (3, .ref (K.G.A 120)), (4, .int i)] [] := by
  refine r_aload_n (i := 1) hO rfl rfl dL_law_1134 ?_
  refine r_aload_n (i := 0) hO rfl rfl dL_law_1135 ?_
  refine r_iload hO (d := dL_law_1136) rfl ?_
  refine r_iconst hO ci_1 dL_law_1138 ?_
  refine r_iadd hO dL_law_1139 ?_
  refine r_sld hO hL dL_law_1140 ?_
  refine r_aload_n (i := 0) hO rfl rfl dL_law_1141 ?_
  refine r_iload hO (d := dL_law_1142) rfl ?_
  refine r_iconst hO ci_2 dL_law_1144 ?_
  refine r_iadd hO dL_law_1145 ?_
  refine r_sld hO hL dL_law_1146 ?_
  refine r_aload_n (i := 0) hO rfl rfl dL_law_1147 ?_
  refine r_iload hO (d := dL_law_1148) rfl ?_
  refine r_iconst hO ci_3 dL_law_1150 ?_
  refine r_iadd hO dL_law_1151 ?_
  refine r_sld hO hL dL_law_1152 ?_
  refine k_X6_resize hO a_1199 rfl ⟨rfl, rfl, Nat.le_of_succ_le hc1, Nat.le_trans (Nat.le_add_right _ 6) hc2⟩ dL_law_1153 ?_
  intro r2 σ1
  refine r_pop hO rfl dL_law_1156 ?_
  refine r_aload_n (i := 2) hO rfl rfl dL_law_1157 ?_
  refine r_aload_n (i := 0) hO rfl rfl dL_law_1158 ?_
  refine r_iload hO (d := dL_law_1159) rfl ?_
  refine r_iconst hO ci_1 dL_law_1161 ?_
  refine r_iadd hO dL_law_1162 ?_
  refine r_sld hO hL dL_law_1163 ?_
  refine r_aload_n (i := 0) hO rfl rfl dL_law_1164 ?_
  refine r_iload hO (d := dL_law_1165) rfl ?_
  refine r_iconst hO ci_2 dL_law_1167 ?_
  refine r_iadd hO dL_law_1168 ?_
  refine r_sld hO hL dL_law_1169 ?_
  refine r_aload_n (i := 0) hO rfl rfl dL_law_1170 ?_
  refine r_iload hO (d := dL_law_1171) rfl ?_
  refine r_iconst hO ci_3 dL_law_1173 ?_
  refine r_iadd hO dL_law_1174 ?_
  refine r_sld hO hL dL_law_1175 ?_
  refine k_X7_resize hO a_1200 rfl ⟨rfl, rfl, Nat.le_of_succ_le hc1, Nat.le_trans (Nat.le_add_right _ 6) hc2⟩ dL_law_1176 ?_
  intro r4 σ3
  refine r_pop hO rfl dL_law_1179 ?_
  refine r_goto (tgt := 1363) hO dL_law_1180 (by decide) ?_
  exact r_jmp (r_wid (Nat.le_succ _) (Nat.le_add_right _ 6) (hk σ3)) (lsub_c rfl (lsub_c rfl (lsub_c rfl (lsub_c rfl (lsub_c rfl lsub_n)))))
def f_law_31 (L : Nat) (xs : Nat → Int32) (k : Wd → Option (Int32 × Wd)) (i : Int32) (σ : Wd) : Option (Int32 × Wd) := gd (inb (i + (1 : Int32)) L) (bd (f_X6_order (xs (ix (i + (1 : Int32)))) σ) fun r2 σ1 => gd (inb (i + (1 : Int32)) L) (bd (f_X7_order (xs (ix (i + (1 : Int32)))) σ1) fun r4 σ3 => k σ3))
set_option maxRecDepth 20000 in
set_option maxHeartbeats 1000000 in
theorem b_law_31 {K : Kt} {cs : Nat × Nat} {b L : Nat} {xs : Nat → Int32} (hO : Ok K cL_law RL 7 room_1) (hL : LawX K b L xs) (hc1 : cs.1 + 1 ≤ room_1.cells) (hc2 : cs.2 + 6 ≤ room_1.slots) {k : Wd → Option (Int32 × Wd)} {i : Int32} (hk : ∀ σ : Wd, Cm K 7 (cs.1 + 1, cs.2 + 6) (k σ) σ 1363 [(0, .ref b), (1, .ref (K.G.A 0)), (2, .ref (K.G.A 102)), (3, .ref (K.G.A 120)), (4, .int i)] []) (σ : Wd) : Cm K 7 cs (f_law_31 L xs k i σ) σ 1183 [(0, .ref b), (1, .ref (K.G.A 0)), (2, .ref (K.G.A 102)), (3, .ref (K.G.A 120)), (4, .int i)] [] := by
  refine r_aload_n (i := 1) hO rfl rfl dL_law_1183 ?_
  refine r_aload_n (i := 0) hO rfl rfl dL_law_1184 ?_
  refine r_iload hO (d := dL_law_1185) rfl ?_
  refine r_iconst hO ci_1 dL_law_1187 ?_
  refine r_iadd hO dL_law_1188 ?_
  refine r_sld hO hL dL_law_1189 ?_
  refine k_X6_order hO a_1201 rfl ⟨rfl, rfl, Nat.le_of_succ_le hc1, Nat.le_trans (Nat.le_add_right _ 6) hc2⟩ dL_law_1190 ?_
  intro r2 σ1
  refine r_pop hO rfl dL_law_1193 ?_
  refine r_aload_n (i := 2) hO rfl rfl dL_law_1194 ?_
  refine r_aload_n (i := 0) hO rfl rfl dL_law_1195 ?_
  refine r_iload hO (d := dL_law_1196) rfl ?_
  refine r_iconst hO ci_1 dL_law_1198 ?_
  refine r_iadd hO dL_law_1199 ?_
  refine r_sld hO hL dL_law_1200 ?_
  refine k_X7_order hO a_1202 rfl ⟨rfl, rfl, Nat.le_of_succ_le hc1, Nat.le_trans (Nat.le_add_right _ 6) hc2⟩ dL_law_1201 ?_
  intro r4 σ3
  refine r_pop hO rfl dL_law_1204 ?_
  refine r_goto (tgt := 1363) hO dL_law_1205 (by decide) ?_
  exact r_jmp (r_wid (Nat.le_succ _) (Nat.le_add_right _ 6) (hk σ3)) (lsub_c rfl (lsub_c rfl (lsub_c rfl (lsub_c rfl (lsub_c rfl lsub_n)))))
def f_law_32 (L : Nat) (xs : Nat → Int32) (k : Wd → Option (Int32 × Wd)) (i : Int32) (σ : Wd) : Option (Int32 × Wd) := bd (f_X6_begin σ) fun r2 σ1 => bd (f_X7_begin σ1) fun r4 σ3 => k σ3
set_option maxRecDepth 20000 in
set_option maxHeartbeats 1000000 in
theorem b_law_32 {K : Kt} {cs : Nat × Nat} {b L : Nat} {xs : Nat → Int32} (hO : Ok K cL_law RL 7 room_1) (hL : LawX K b L xs) (hc1 : cs.1 + 1 ≤ room_1.cells) (hc2 : cs.2 + 6 ≤ room_1.slots) {k : Wd → Option (Int32 × Wd)} {i : Int32} (hk : ∀ σ : Wd, Cm K 7 (cs.1 + 1, cs.2 + 6) (k σ) σ 1363 [(0, .ref b), (1, .ref (K.G.A 0)), (2, .ref (K.G.A 102)), (3, .ref (K.G.A 120)), (4, .int i)] []) (σ : Wd) : Cm K 7 cs (f_law_32 L xs k i σ) σ 1208 [(0, .ref b), (1, .ref (K.G.A 0)), (2, .ref (K.G.A 102)), (3, .ref (K.G.A 120)), (4, .int i)] [] := by
  refine r_aload_n (i := 1) hO rfl rfl dL_law_1208 ?_
  refine k_X6_begin hO a_1203 rfl ⟨rfl, rfl, Nat.le_of_succ_le hc1, Nat.le_trans (Nat.le_add_right _ 6) hc2⟩ dL_law_1209 ?_
  intro r2 σ1
  refine r_pop hO rfl dL_law_1212 ?_
  refine r_aload_n (i := 2) hO rfl rfl dL_law_1213 ?_
  refine k_X7_begin hO a_1204 rfl ⟨rfl, rfl, Nat.le_of_succ_le hc1, Nat.le_trans (Nat.le_add_right _ 6) hc2⟩ dL_law_1214 ?_
  intro r4 σ3
  refine r_pop hO rfl dL_law_1217 ?_
  refine r_goto (tgt := 1363) hO dL_law_1218 (by decide) ?_
  exact r_jmp (r_wid (Nat.le_succ _) (Nat.le_add_right _ 6) (hk σ3)) (lsub_c rfl (lsub_c rfl (lsub_c rfl (lsub_c rfl (lsub_c rfl lsub_n)))))
def f_law_33 (L : Nat) (xs : Nat → Int32) (k : Wd → Option (Int32 × Wd)) (i : Int32) (σ : Wd) : Option (Int32 × Wd) := gd (inb (i + (1 : Int32)) L) (bd (f_X6_ticks (xs (ix (i + (1 : Int32)))) σ) fun r2 σ1 => gd (inb (i + (1 : Int32)) L) (bd (f_X7_ticks (xs (ix (i + (1 : Int32)))) σ1) fun r4 σ3 => k σ3))
set_option maxRecDepth 20000 in
set_option maxHeartbeats 1000000 in
theorem b_law_33 {K : Kt} {cs : Nat × Nat} {b L : Nat} {xs : Nat → Int32} (hO : Ok K cL_law RL 7 room_1) (hL : LawX K b L xs) (hc1 : cs.1 + 1 ≤ room_1.cells) (hc2 : cs.2 + 6 ≤ room_1.slots) {k : Wd → Option (Int32 × Wd)} {i : Int32} (hk : ∀ σ : Wd, Cm K 7 (cs.1 + 1, cs.2 + 6) (k σ) σ 1363 [(0, .ref b), (1, .ref (K.G.A 0)), (2, .ref (K.G.A 102)), (3, .ref (K.G.A 120)), (4, .int i)] []) (σ : Wd) : Cm K 7 cs (f_law_33 L xs k i σ) σ 1221 [(0, .ref b), (1, .ref (K.G.A 0)), (2, .ref (K.G.A 102)), (3, .ref (K.G.A 120)), (4, .int i)] [] := by
  refine r_aload_n (i := 1) hO rfl rfl dL_law_1221 ?_
  refine r_aload_n (i := 0) hO rfl rfl dL_law_1222 ?_
  refine r_iload hO (d := dL_law_1223) rfl ?_
  refine r_iconst hO ci_1 dL_law_1225 ?_
  refine r_iadd hO dL_law_1226 ?_
  refine r_sld hO hL dL_law_1227 ?_
  refine k_X6_ticks hO a_1205 rfl ⟨rfl, rfl, Nat.le_of_succ_le hc1, Nat.le_trans (Nat.le_add_right _ 6) hc2⟩ dL_law_1228 ?_
  intro r2 σ1
  refine r_pop hO rfl dL_law_1231 ?_
  refine r_aload_n (i := 2) hO rfl rfl dL_law_1232 ?_
  refine r_aload_n (i := 0) hO rfl rfl dL_law_1233 ?_
  refine r_iload hO (d := dL_law_1234) rfl ?_
  refine r_iconst hO ci_1 dL_law_1236 ?_
  refine r_iadd hO dL_law_1237 ?_
  refine r_sld hO hL dL_law_1238 ?_
  refine k_X7_ticks hO a_1206 rfl ⟨rfl, rfl, Nat.le_of_succ_le hc1, Nat.le_trans (Nat.le_add_right _ 6) hc2⟩ dL_law_1239 ?_
  intro r4 σ3
  refine r_pop hO rfl dL_law_1242 ?_
  refine r_goto (tgt := 1363) hO dL_law_1243 (by decide) ?_
  exact r_jmp (r_wid (Nat.le_succ _) (Nat.le_add_right _ 6) (hk σ3)) (lsub_c rfl (lsub_c rfl (lsub_c rfl (lsub_c rfl (lsub_c rfl lsub_n)))))
def f_law_34 (L : Nat) (xs : Nat → Int32) (k : Wd → Option (Int32 × Wd)) (i : Int32) (σ : Wd) : Option (Int32 × Wd) := gd (inb (i + (1 : Int32)) L) (bd (f_X6_call (xs (ix (i + (1 : Int32)))) σ) fun r2 σ1 => gd (inb (i + (1 : Int32)) L) (bd (f_X7_call (xs (ix (i + (1 : Int32)))) σ1) fun r4 σ3 => k σ3))
set_option maxRecDepth 20000 in
set_option maxHeartbeats 1000000 in
theorem b_law_34 {K : Kt} {cs : Nat × Nat} {b L : Nat} {xs : Nat → Int32} (hO : Ok K cL_law RL 7 room_1) (hL : LawX K b L xs) (hc1 : cs.1 + 1 ≤ room_1.cells) (hc2 : cs.2 + 6 ≤ room_1.slots) {k : Wd → Option (Int32 × Wd)} {i : Int32} (hk : ∀ σ : Wd, Cm K 7 (cs.1 + 1, cs.2 + 6) (k σ) σ 1363 [(0, .ref b), (1, .ref (K.G.A 0)), (2, .ref (K.G.A 102)), (3, .ref (K.G.A 120)), (4, .int i)] []) (σ : Wd) : Cm K 7 cs (f_law_34 L xs k i σ) σ 1246 [(0, .ref b), (1, .ref (K.G.A 0)), (2, .ref (K.G.A 102)), (3, .ref (K.G.A 120)), (4, .int i)] [] := by
  refine r_aload_n (i := 1) hO rfl rfl dL_law_1246 ?_
  refine r_aload_n (i := 0) hO rfl rfl dL_law_1247 ?_
  refine r_iload hO (d := dL_law_1248) rfl ?_
  refine r_iconst hO ci_1 dL_law_1250 ?_
  refine r_iadd hO dL_law_1251 ?_
  refine r_sld hO hL dL_law_1252 ?_
  refine k_X6_call hO a_1207 rfl ⟨rfl, rfl, Nat.le_of_succ_le hc1, Nat.le_trans (Nat.le_add_right _ 6) hc2⟩ dL_law_1253 ?_
  intro r2 σ1
  refine r_pop hO rfl dL_law_1256 ?_
  refine r_aload_n (i := 2) hO rfl rfl dL_law_1257 ?_
  refine r_aload_n (i := 0) hO rfl rfl dL_law_1258 ?_
  refine r_iload hO (d := dL_law_1259) rfl ?_
  refine r_iconst hO ci_1 dL_law_1261 ?_
  refine r_iadd hO dL_law_1262 ?_
  refine r_sld hO hL dL_law_1263 ?_
  refine k_X7_call hO a_1208 rfl ⟨rfl, rfl, Nat.le_of_succ_le hc1, Nat.le_trans (Nat.le_add_right _ 6) hc2⟩ dL_law_1264 ?_
  intro r4 σ3
  refine r_pop hO rfl dL_law_1267 ?_
  refine r_goto (tgt := 1363) hO dL_law_1268 (by decide) ?_
  exact r_jmp (r_wid (Nat.le_succ _) (Nat.le_add_right _ 6) (hk σ3)) (lsub_c rfl (lsub_c rfl (lsub_c rfl (lsub_c rfl (lsub_c rfl lsub_n)))))
def f_law_35 (L : Nat) (xs : Nat → Int32) (k : Wd → Option (Int32 × Wd)) (i : Int32) (σ : Wd) : Option (Int32 × Wd) := bd (f_X6_keep σ) fun r2 σ1 => bd (f_X7_keep σ1) fun r4 σ3 => k σ3
set_option maxRecDepth 20000 in
set_option maxHeartbeats 1000000 in
theorem b_law_35 {K : Kt} {cs : Nat × Nat} {b L : Nat} {xs : Nat → Int32} (hO : Ok K cL_law RL 7 room_1) (hL : LawX K b L xs) (hc1 : cs.1 + 1 ≤ room_1.cells) (hc2 : cs.2 + 6 ≤ room_1.slots) {k : Wd → Option (Int32 × Wd)} {i : Int32} (hk : ∀ σ : Wd, Cm K 7 (cs.1 + 1, cs.2 + 6) (k σ) σ 1363 [(0, .ref b), (1, .ref (K.G.A 0)), (2, .ref (K.G.A 102)), (3, .ref (K.G.A 120)), (4, .int i)] []) (σ : Wd) : Cm K 7 cs (f_law_35 L xs k i σ) σ 1271 [(0, .ref b), (1, .ref (K.G.A 0)), (2, .ref (K.G.A 102)), (3, .ref (K.G.A 120)), (4, .int i)] [] := by
  refine r_aload_n (i := 1) hO rfl rfl dL_law_1271 ?_
  refine k_X6_keep hO a_1209 rfl ⟨rfl, rfl, Nat.le_of_succ_le hc1, Nat.le_trans (Nat.le_add_right _ 6) hc2⟩ dL_law_1272 ?_
  intro r2 σ1
  refine r_pop hO rfl dL_law_1275 ?_
  refine r_aload_n (i := 2) hO rfl rfl dL_law_1276 ?_
  refine k_X7_keep hO a_1210 rfl ⟨rfl, rfl, Nat.le_of_succ_le hc1, Nat.le_trans (Nat.le_add_right _ 6) hc2⟩ dL_law_1277 ?_
  intro r4 σ3
  refine r_pop hO rfl dL_law_1280 ?_
  refine r_goto (tgt := 1363) hO dL_law_1281 (by decide) ?_
  exact r_jmp (r_wid (Nat.le_succ _) (Nat.le_add_right _ 6) (hk σ3)) (lsub_c rfl (lsub_c rfl (lsub_c rfl (lsub_c rfl (lsub_c rfl lsub_n)))))
def f_law_36 (L : Nat) (xs : Nat → Int32) (k : Wd → Option (Int32 × Wd)) (i : Int32) (σ : Wd) : Option (Int32 × Wd) := bd (f_X6_back σ) fun r2 σ1 => bd (f_X7_back σ1) fun r4 σ3 => k σ3
set_option maxRecDepth 20000 in
set_option maxHeartbeats 1000000 in
theorem b_law_36 {K : Kt} {cs : Nat × Nat} {b L : Nat} {xs : Nat → Int32} (hO : Ok K cL_law RL 7 room_1) (hL : LawX K b L xs) (hc1 : cs.1 + 1 ≤ room_1.cells) (hc2 : cs.2 + 6 ≤ room_1.slots) {k : Wd → Option (Int32 × Wd)} {i : Int32} (hk : ∀ σ : Wd, Cm K 7 (cs.1 + 1, cs.2 + 6) (k σ) σ 1363 [(0, .ref b), (1, .ref (K.G.A 0)), (2, .ref (K.G.A 102)), (3, .ref (K.G.A 120)), (4, .int i)] []) (σ : Wd) : Cm K 7 cs (f_law_36 L xs k i σ) σ 1284 [(0, .ref b), (1, .ref (K.G.A 0)), (2, .ref (K.G.A 102)), (3, .ref (K.G.A 120)), (4, .int i)] [] := by
  refine r_aload_n (i := 1) hO rfl rfl dL_law_1284 ?_
  refine k_X6_back hO a_1211 rfl ⟨rfl, rfl, Nat.le_of_succ_le hc1, Nat.le_trans (Nat.le_add_right _ 6) hc2⟩ dL_law_1285 ?_
  intro r2 σ1
  refine r_pop hO rfl dL_law_1288 ?_
  refine r_aload_n (i := 2) hO rfl rfl dL_law_1289 ?_
  refine k_X7_back hO a_1212 rfl ⟨rfl, rfl, Nat.le_of_succ_le hc1, Nat.le_trans (Nat.le_add_right _ 6) hc2⟩ dL_law_1290 ?_
  intro r4 σ3
  refine r_pop hO rfl dL_law_1293 ?_
  refine r_goto (tgt := 1363) hO dL_law_1294 (by decide) ?_
  exact r_jmp (r_wid (Nat.le_succ _) (Nat.le_add_right _ 6) (hk σ3)) (lsub_c rfl (lsub_c rfl (lsub_c rfl (lsub_c rfl (lsub_c rfl lsub_n)))))
def f_law_37 (L : Nat) (xs : Nat → Int32) (k : Wd → Option (Int32 × Wd)) (i : Int32) (σ : Wd) : Option (Int32 × Wd) := gd (inb (i + (1 : Int32)) L) (bd (f_L_dry (xs (ix (i + (1 : Int32)))) σ) fun r2 σ1 => gd (inb (i + (1 : Int32)) L) (bd (f_X7_dry (xs (ix (i + (1 : Int32)))) σ1) fun r4 σ3 => k σ3))
set_option maxRecDepth 20000 in
set_option maxHeartbeats 1000000 in
theorem b_law_37 {K : Kt} {cs : Nat × Nat} {b L : Nat} {xs : Nat → Int32} (hO : Ok K cL_law RL 7 room_1) (hL : LawX K b L xs) (hc1 : cs.1 + 1 ≤ room_1.cells) (hc2 : cs.2 + 6 ≤ room_1.slots) {k : Wd → Option (Int32 × Wd)} {i : Int32} (hk : ∀ σ : Wd, Cm K 7 (cs.1 + 1, cs.2 + 6) (k σ) σ 1363 [(0, .ref b), (1, .ref (K.G.A 0)), (2, .ref (K.G.A 102)), (3, .ref (K.G.A 120)), (4, .int i)] []) (σ : Wd) : Cm K 7 cs (f_law_37 L xs k i σ) σ 1297 [(0, .ref b), (1, .ref (K.G.A 0)), (2, .ref (K.G.A 102)), (3, .ref (K.G.A 120)), (4, .int i)] [] := by
  refine r_aload_n (i := 1) hO rfl rfl dL_law_1297 ?_
  refine r_aload_n (i := 0) hO rfl rfl dL_law_1298 ?_
  refine r_iload hO (d := dL_law_1299) rfl ?_
  refine r_iconst hO ci_1 dL_law_1301 ?_
  refine r_iadd hO dL_law_1302 ?_
  refine r_sld hO hL dL_law_1303 ?_
  refine r_aload_n (i := 3) hO rfl rfl dL_law_1304 ?_
  refine k_L_dry hO hL a_1213 rfl rfl rfl hc1 hc2 dL_law_1305 ?_
  intro r2 σ1
  refine r_istore hO rfl rfl dL_law_1308 ?_
  refine r_aload_n (i := 2) hO rfl rfl dL_law_1310 ?_
  refine r_aload_n (i := 0) hO rfl rfl dL_law_1311 ?_
  refine r_iload hO (d := dL_law_1312) rfl ?_
  refine r_iconst hO ci_1 dL_law_1314 ?_
  refine r_iadd hO dL_law_1315 ?_
  refine r_sld hO hL dL_law_1316 ?_
  refine k_X7_dry hO a_1214 rfl ⟨rfl, rfl, hc1, hc2⟩ dL_law_1317 ?_
  intro r4 σ3
  refine r_istore hO rfl rfl dL_law_1320 ?_
  refine r_goto (tgt := 1363) hO dL_law_1322 (by decide) ?_
  exact r_jmp (hk σ3) (lsub_c rfl (lsub_c rfl (lsub_c rfl (lsub_c rfl (lsub_c rfl lsub_n)))))
def f_law_38 (L : Nat) (xs : Nat → Int32) (k : Wd → Option (Int32 × Wd)) (i : Int32) (σ : Wd) : Option (Int32 × Wd) := gd (inb (i + (1 : Int32)) L) (bd (f_X6_size (xs (ix (i + (1 : Int32)))) σ) fun r2 σ1 => gd (inb (i + (1 : Int32)) L) (bd (f_X7_size (xs (ix (i + (1 : Int32)))) σ1) fun r4 σ3 => k σ3))
set_option maxRecDepth 20000 in
set_option maxHeartbeats 1000000 in
theorem b_law_38 {K : Kt} {cs : Nat × Nat} {b L : Nat} {xs : Nat → Int32} (hO : Ok K cL_law RL 7 room_1) (hL : LawX K b L xs) (hc1 : cs.1 + 1 ≤ room_1.cells) (hc2 : cs.2 + 6 ≤ room_1.slots) {k : Wd → Option (Int32 × Wd)} {i : Int32} (hk : ∀ σ : Wd, Cm K 7 (cs.1 + 1, cs.2 + 6) (k σ) σ 1363 [(0, .ref b), (1, .ref (K.G.A 0)), (2, .ref (K.G.A 102)), (3, .ref (K.G.A 120)), (4, .int i)] []) (σ : Wd) : Cm K 7 cs (f_law_38 L xs k i σ) σ 1325 [(0, .ref b), (1, .ref (K.G.A 0)), (2, .ref (K.G.A 102)), (3, .ref (K.G.A 120)), (4, .int i)] [] := by
  refine r_aload_n (i := 1) hO rfl rfl dL_law_1325 ?_
  refine r_aload_n (i := 0) hO rfl rfl dL_law_1326 ?_
  refine r_iload hO (d := dL_law_1327) rfl ?_
  refine r_iconst hO ci_1 dL_law_1329 ?_
  refine r_iadd hO dL_law_1330 ?_
  refine r_sld hO hL dL_law_1331 ?_
  refine k_X6_size hO a_1215 rfl ⟨rfl, rfl, Nat.le_of_succ_le hc1, Nat.le_trans (Nat.le_add_right _ 6) hc2⟩ dL_law_1332 ?_
  intro r2 σ1
  refine r_pop hO rfl dL_law_1335 ?_
  refine r_aload_n (i := 2) hO rfl rfl dL_law_1336 ?_
  refine r_aload_n (i := 0) hO rfl rfl dL_law_1337 ?_
  refine r_iload hO (d := dL_law_1338) rfl ?_
  refine r_iconst hO ci_1 dL_law_1340 ?_
  refine r_iadd hO dL_law_1341 ?_
  refine r_sld hO hL dL_law_1342 ?_
  refine k_X7_size hO a_1216 rfl ⟨rfl, rfl, Nat.le_of_succ_le hc1, Nat.le_trans (Nat.le_add_right _ 6) hc2⟩ dL_law_1343 ?_
  intro r4 σ3
  refine r_pop hO rfl dL_law_1346 ?_
  refine r_goto (tgt := 1363) hO dL_law_1347 (by decide) ?_
  exact r_jmp (r_wid (Nat.le_succ _) (Nat.le_add_right _ 6) (hk σ3)) (lsub_c rfl (lsub_c rfl (lsub_c rfl (lsub_c rfl (lsub_c rfl lsub_n)))))
def f_law_39 (L : Nat) (xs : Nat → Int32) (k : Wd → Option (Int32 × Wd)) (i : Int32) (σ : Wd) : Option (Int32 × Wd) := bd (f_X6_trouble σ) fun r2 σ1 => bd (f_X7_trouble σ1) fun r4 σ3 => if r2 = r4 then (k σ3) else (none)
set_option maxRecDepth 20000 in
set_option maxHeartbeats 1000000 in
theorem b_law_39 {K : Kt} {cs : Nat × Nat} {b L : Nat} {xs : Nat → Int32} (hO : Ok K cL_law RL 7 room_1) (hL : LawX K b L xs) (hc1 : cs.1 + 1 ≤ room_1.cells) (hc2 : cs.2 + 6 ≤ room_1.slots) {k : Wd → Option (Int32 × Wd)} {i : Int32} (hk : ∀ σ : Wd, Cm K 7 (cs.1 + 1, cs.2 + 6) (k σ) σ 1363 [(0, .ref b), (1, .ref (K.G.A 0)), (2, .ref (K.G.A 102)), (3, .ref (K.G.A 120)), (4, .int i)] []) (σ : Wd) : Cm K 7 cs (f_law_39 L xs k i σ) σ 1350 [(0, .ref b), (1, .ref (K.G.A 0)), (2, .ref (K.G.A 102)), (3, .ref (K.G.A 120)), (4, .int i)] [] := by
  refine r_aload_n (i := 1) hO rfl rfl dL_law_1350 ?_
  refine k_X6_trouble hO a_1217 rfl ⟨rfl, rfl, Nat.le_of_succ_le hc1, Nat.le_trans (Nat.le_add_right _ 6) hc2⟩ dL_law_1351 ?_
  intro r2 σ1
  refine r_aload_n (i := 2) hO rfl rfl dL_law_1354 ?_
  refine k_X7_trouble hO a_1218 rfl ⟨rfl, rfl, Nat.le_of_succ_le hc1, Nat.le_trans (Nat.le_add_right _ 6) hc2⟩ dL_law_1355 ?_
  intro r4 σ3
  refine r_icmp_eq (tgt := 1363) hO dL_law_1358 (by decide) ?_ ?_
  · exact r_jmp (r_wid (Nat.le_succ _) (Nat.le_add_right _ 6) (hk σ3)) (lsub_c rfl (lsub_c rfl (lsub_c rfl (lsub_c rfl (lsub_c rfl lsub_n)))))
  · refine r_iconst hO ci_0 dL_law_1361 ?_
    exact r_none
def f_law_sw (L : Nat) (xs : Nat → Int32) (k : Wd → Option (Int32 × Wd)) (i x : Int32) (σ : Wd) : Option (Int32 × Wd) := if x = (0 : Int32) then (f_law_0 L xs k i σ) else if x = (1 : Int32) then (f_law_1 L xs k i σ) else if x = (2 : Int32) then (f_law_2 L xs k i σ) else if x = (3 : Int32) then (f_law_3 L xs k i σ) else if x = (4 : Int32) then (f_law_4 L xs k i σ) else if x = (5 : Int32) then (f_law_5 L xs k i σ) else if x = (6 : Int32) then (f_law_6 L xs k i σ) else if x = (7 : Int32) then (f_law_7 L xs k i σ) else if x = (8 : Int32) then (f_law_8 L xs k i σ) else if x = (9 : Int32) then (f_law_9 L xs k i σ) else if x = (10 : Int32) then (f_law_10 L xs k i σ) else if x = (11 : Int32) then (f_law_11 L xs k i σ) else if x = (12 : Int32) then (f_law_12 L xs k i σ) else if x = (13 : Int32) then (f_law_13 L xs k i σ) else if x = (14 : Int32) then (f_law_14 L xs k i σ) else if x = (15 : Int32) then (f_law_15 L xs k i σ) else if x = (16 : Int32) then (f_law_16 L xs k i σ) else if x = (17 : Int32) then (f_law_17 L xs k i σ) else if x = (18 : Int32) then (f_law_18 L xs k i σ) else if x = (19 : Int32) then (f_law_19 L xs k i σ) else if x = (20 : Int32) then (f_law_20 L xs k i σ) else if x = (21 : Int32) then (f_law_21 L xs k i σ) else if x = (22 : Int32) then (f_law_22 L xs k i σ) else if x = (23 : Int32) then (f_law_23 L xs k i σ) else if x = (24 : Int32) then (f_law_24 L xs k i σ) else if x = (25 : Int32) then (f_law_25 L xs k i σ) else if x = (26 : Int32) then (f_law_26 L xs k i σ) else if x = (27 : Int32) then (f_law_27 L xs k i σ) else if x = (28 : Int32) then (f_law_28 L xs k i σ) else if x = (29 : Int32) then (f_law_29 L xs k i σ) else if x = (30 : Int32) then (f_law_30 L xs k i σ) else if x = (31 : Int32) then (f_law_31 L xs k i σ) else if x = (32 : Int32) then (f_law_32 L xs k i σ) else if x = (33 : Int32) then (f_law_33 L xs k i σ) else if x = (34 : Int32) then (f_law_34 L xs k i σ) else if x = (35 : Int32) then (f_law_35 L xs k i σ) else if x = (36 : Int32) then (f_law_36 L xs k i σ) else if x = (37 : Int32) then (f_law_37 L xs k i σ) else if x = (38 : Int32) then (f_law_38 L xs k i σ) else if x = (39 : Int32) then (f_law_39 L xs k i σ) else k σ
set_option maxRecDepth 20000 in
set_option maxHeartbeats 4000000 in
theorem b_law_sw {K : Kt} {cs : Nat × Nat} {b L : Nat} {xs : Nat → Int32} (hO : Ok K cL_law RL 7 room_1) (hL : LawX K b L xs) (hc1 : cs.1 + 1 ≤ room_1.cells) (hc2 : cs.2 + 6 ≤ room_1.slots) {k : Wd → Option (Int32 × Wd)} {i : Int32} (hk : ∀ σ : Wd, Cm K 7 (cs.1 + 1, cs.2 + 6) (k σ) σ 1363 [(0, .ref b), (1, .ref (K.G.A 0)), (2, .ref (K.G.A 102)), (3, .ref (K.G.A 120)), (4, .int i)] []) (x : Int32) (σ : Wd) : Cm K 7 cs (f_law_sw L xs k i x σ) σ 40 [(0, .ref b), (1, .ref (K.G.A 0)), (2, .ref (K.G.A 102)), (3, .ref (K.G.A 120)), (4, .int i)] [.int x] := by
  refine r_if (fun hc => ?_) (fun hn0 => ?_)
  · refine r_tsI (tgt := 216) hO dL_law_40 hc (by decide) (by decide) rfl (by decide) ?_
    exact b_law_0 hO hL hc1 hc2 hk σ
  refine r_if (fun hc => ?_) (fun hn1 => ?_)
  · refine r_tsI (tgt := 289) hO dL_law_40 hc (by decide) (by decide) rfl (by decide) ?_
    exact b_law_1 hO hL hc1 hc2 hk σ
  refine r_if (fun hc => ?_) (fun hn2 => ?_)
  · refine r_tsI (tgt := 314) hO dL_law_40 hc (by decide) (by decide) rfl (by decide) ?_
    exact b_law_2 hO hL hc1 hc2 hk σ
  refine r_if (fun hc => ?_) (fun hn3 => ?_)
  · refine r_tsI (tgt := 327) hO dL_law_40 hc (by decide) (by decide) rfl (by decide) ?_
    exact b_law_3 hO hL hc1 hc2 hk σ
  refine r_if (fun hc => ?_) (fun hn4 => ?_)
  · refine r_tsI (tgt := 340) hO dL_law_40 hc (by decide) (by decide) rfl (by decide) ?_
    exact b_law_4 hO hL hc1 hc2 hk σ
  refine r_if (fun hc => ?_) (fun hn5 => ?_)
  · refine r_tsI (tgt := 365) hO dL_law_40 hc (by decide) (by decide) rfl (by decide) ?_
    exact b_law_5 hO hL hc1 hc2 hk σ
  refine r_if (fun hc => ?_) (fun hn6 => ?_)
  · refine r_tsI (tgt := 402) hO dL_law_40 hc (by decide) (by decide) rfl (by decide) ?_
    exact b_law_6 hO hL hc1 hc2 hk σ
  refine r_if (fun hc => ?_) (fun hn7 => ?_)
  · refine r_tsI (tgt := 451) hO dL_law_40 hc (by decide) (by decide) rfl (by decide) ?_
    exact b_law_7 hO hL hc1 hc2 hk σ
  refine r_if (fun hc => ?_) (fun hn8 => ?_)
  · refine r_tsI (tgt := 488) hO dL_law_40 hc (by decide) (by decide) rfl (by decide) ?_
    exact b_law_8 hO hL hc1 hc2 hk σ
  refine r_if (fun hc => ?_) (fun hn9 => ?_)
  · refine r_tsI (tgt := 525) hO dL_law_40 hc (by decide) (by decide) rfl (by decide) ?_
    exact b_law_9 hO hL hc1 hc2 hk σ
  refine r_if (fun hc => ?_) (fun hn10 => ?_)
  · refine r_tsI (tgt := 562) hO dL_law_40 hc (by decide) (by decide) rfl (by decide) ?_
    exact b_law_10 hO hL hc1 hc2 hk σ
  refine r_if (fun hc => ?_) (fun hn11 => ?_)
  · refine r_tsI (tgt := 587) hO dL_law_40 hc (by decide) (by decide) rfl (by decide) ?_
    exact b_law_11 hO hL hc1 hc2 hk σ
  refine r_if (fun hc => ?_) (fun hn12 => ?_)
  · refine r_tsI (tgt := 612) hO dL_law_40 hc (by decide) (by decide) rfl (by decide) ?_
    exact b_law_12 hO hL hc1 hc2 hk σ
  refine r_if (fun hc => ?_) (fun hn13 => ?_)
  · refine r_tsI (tgt := 649) hO dL_law_40 hc (by decide) (by decide) rfl (by decide) ?_
    exact b_law_13 hO hL hc1 hc2 hk σ
  refine r_if (fun hc => ?_) (fun hn14 => ?_)
  · refine r_tsI (tgt := 674) hO dL_law_40 hc (by decide) (by decide) rfl (by decide) ?_
    exact b_law_14 hO hL hc1 hc2 hk σ
  refine r_if (fun hc => ?_) (fun hn15 => ?_)
  · refine r_tsI (tgt := 699) hO dL_law_40 hc (by decide) (by decide) rfl (by decide) ?_
    exact b_law_15 hO hL hc1 hc2 hk σ
  refine r_if (fun hc => ?_) (fun hn16 => ?_)
  · refine r_tsI (tgt := 724) hO dL_law_40 hc (by decide) (by decide) rfl (by decide) ?_
    exact b_law_16 hO hL hc1 hc2 hk σ
  refine r_if (fun hc => ?_) (fun hn17 => ?_)
  · refine r_tsI (tgt := 761) hO dL_law_40 hc (by decide) (by decide) rfl (by decide) ?_
    exact b_law_17 hO hL hc1 hc2 hk σ
  refine r_if (fun hc => ?_) (fun hn18 => ?_)
  · refine r_tsI (tgt := 798) hO dL_law_40 hc (by decide) (by decide) rfl (by decide) ?_
    exact b_law_18 hO hL hc1 hc2 hk σ
  refine r_if (fun hc => ?_) (fun hn19 => ?_)
  · refine r_tsI (tgt := 823) hO dL_law_40 hc (by decide) (by decide) rfl (by decide) ?_
    exact b_law_19 hO hL hc1 hc2 hk σ
  refine r_if (fun hc => ?_) (fun hn20 => ?_)
  · refine r_tsI (tgt := 860) hO dL_law_40 hc (by decide) (by decide) rfl (by decide) ?_
    exact b_law_20 hO hL hc1 hc2 hk σ
  refine r_if (fun hc => ?_) (fun hn21 => ?_)
  · refine r_tsI (tgt := 885) hO dL_law_40 hc (by decide) (by decide) rfl (by decide) ?_
    exact b_law_21 hO hL hc1 hc2 hk σ
  refine r_if (fun hc => ?_) (fun hn22 => ?_)
  · refine r_tsI (tgt := 898) hO dL_law_40 hc (by decide) (by decide) rfl (by decide) ?_
    exact b_law_22 hO hL hc1 hc2 hk σ
  refine r_if (fun hc => ?_) (fun hn23 => ?_)
  · refine r_tsI (tgt := 923) hO dL_law_40 hc (by decide) (by decide) rfl (by decide) ?_
    exact b_law_23 hO hL hc1 hc2 hk σ
  refine r_if (fun hc => ?_) (fun hn24 => ?_)
  · refine r_tsI (tgt := 960) hO dL_law_40 hc (by decide) (by decide) rfl (by decide) ?_
    exact b_law_24 hO hL hc1 hc2 hk σ
  refine r_if (fun hc => ?_) (fun hn25 => ?_)
  · refine r_tsI (tgt := 973) hO dL_law_40 hc (by decide) (by decide) rfl (by decide) ?_
    exact b_law_25 hO hL hc1 hc2 hk σ
  refine r_if (fun hc => ?_) (fun hn26 => ?_)
  · refine r_tsI (tgt := 1010) hO dL_law_40 hc (by decide) (by decide) rfl (by decide) ?_
    exact b_law_26 hO hL hc1 hc2 hk σ
  refine r_if (fun hc => ?_) (fun hn27 => ?_)
  · refine r_tsI (tgt := 1047) hO dL_law_40 hc (by decide) (by decide) rfl (by decide) ?_
    exact b_law_27 hO hL hc1 hc2 hk σ
  refine r_if (fun hc => ?_) (fun hn28 => ?_)
  · refine r_tsI (tgt := 1072) hO dL_law_40 hc (by decide) (by decide) rfl (by decide) ?_
    exact b_law_28 hO hL hc1 hc2 hk σ
  refine r_if (fun hc => ?_) (fun hn29 => ?_)
  · refine r_tsI (tgt := 1097) hO dL_law_40 hc (by decide) (by decide) rfl (by decide) ?_
    exact b_law_29 hO hL hc1 hc2 hk σ
  refine r_if (fun hc => ?_) (fun hn30 => ?_)
  · refine r_tsI (tgt := 1134) hO dL_law_40 hc (by decide) (by decide) rfl (by decide) ?_
    exact b_law_30 hO hL hc1 hc2 hk σ
  refine r_if (fun hc => ?_) (fun hn31 => ?_)
  · refine r_tsI (tgt := 1183) hO dL_law_40 hc (by decide) (by decide) rfl (by decide) ?_
    exact b_law_31 hO hL hc1 hc2 hk σ
  refine r_if (fun hc => ?_) (fun hn32 => ?_)
  · refine r_tsI (tgt := 1208) hO dL_law_40 hc (by decide) (by decide) rfl (by decide) ?_
    exact b_law_32 hO hL hc1 hc2 hk σ
  refine r_if (fun hc => ?_) (fun hn33 => ?_)
  · refine r_tsI (tgt := 1221) hO dL_law_40 hc (by decide) (by decide) rfl (by decide) ?_
    exact b_law_33 hO hL hc1 hc2 hk σ
  refine r_if (fun hc => ?_) (fun hn34 => ?_)
  · refine r_tsI (tgt := 1246) hO dL_law_40 hc (by decide) (by decide) rfl (by decide) ?_
    exact b_law_34 hO hL hc1 hc2 hk σ
  refine r_if (fun hc => ?_) (fun hn35 => ?_)
  · refine r_tsI (tgt := 1271) hO dL_law_40 hc (by decide) (by decide) rfl (by decide) ?_
    exact b_law_35 hO hL hc1 hc2 hk σ
  refine r_if (fun hc => ?_) (fun hn36 => ?_)
  · refine r_tsI (tgt := 1284) hO dL_law_40 hc (by decide) (by decide) rfl (by decide) ?_
    exact b_law_36 hO hL hc1 hc2 hk σ
  refine r_if (fun hc => ?_) (fun hn37 => ?_)
  · refine r_tsI (tgt := 1297) hO dL_law_40 hc (by decide) (by decide) rfl (by decide) ?_
    exact b_law_37 hO hL hc1 hc2 hk σ
  refine r_if (fun hc => ?_) (fun hn38 => ?_)
  · refine r_tsI (tgt := 1325) hO dL_law_40 hc (by decide) (by decide) rfl (by decide) ?_
    exact b_law_38 hO hL hc1 hc2 hk σ
  refine r_if (fun hc => ?_) (fun hn39 => ?_)
  · refine r_tsI (tgt := 1350) hO dL_law_40 hc (by decide) (by decide) rfl (by decide) ?_
    exact b_law_39 hO hL hc1 hc2 hk σ
  have h_0 := ne_i (n := 0) hn0 rfl
  have h_1 := ne_i (n := 1) hn1 rfl
  have h_2 := ne_i (n := 2) hn2 rfl
  have h_3 := ne_i (n := 3) hn3 rfl
  have h_4 := ne_i (n := 4) hn4 rfl
  have h_5 := ne_i (n := 5) hn5 rfl
  have h_6 := ne_i (n := 6) hn6 rfl
  have h_7 := ne_i (n := 7) hn7 rfl
  have h_8 := ne_i (n := 8) hn8 rfl
  have h_9 := ne_i (n := 9) hn9 rfl
  have h_10 := ne_i (n := 10) hn10 rfl
  have h_11 := ne_i (n := 11) hn11 rfl
  have h_12 := ne_i (n := 12) hn12 rfl
  have h_13 := ne_i (n := 13) hn13 rfl
  have h_14 := ne_i (n := 14) hn14 rfl
  have h_15 := ne_i (n := 15) hn15 rfl
  have h_16 := ne_i (n := 16) hn16 rfl
  have h_17 := ne_i (n := 17) hn17 rfl
  have h_18 := ne_i (n := 18) hn18 rfl
  have h_19 := ne_i (n := 19) hn19 rfl
  have h_20 := ne_i (n := 20) hn20 rfl
  have h_21 := ne_i (n := 21) hn21 rfl
  have h_22 := ne_i (n := 22) hn22 rfl
  have h_23 := ne_i (n := 23) hn23 rfl
  have h_24 := ne_i (n := 24) hn24 rfl
  have h_25 := ne_i (n := 25) hn25 rfl
  have h_26 := ne_i (n := 26) hn26 rfl
  have h_27 := ne_i (n := 27) hn27 rfl
  have h_28 := ne_i (n := 28) hn28 rfl
  have h_29 := ne_i (n := 29) hn29 rfl
  have h_30 := ne_i (n := 30) hn30 rfl
  have h_31 := ne_i (n := 31) hn31 rfl
  have h_32 := ne_i (n := 32) hn32 rfl
  have h_33 := ne_i (n := 33) hn33 rfl
  have h_34 := ne_i (n := 34) hn34 rfl
  have h_35 := ne_i (n := 35) hn35 rfl
  have h_36 := ne_i (n := 36) hn36 rfl
  have h_37 := ne_i (n := 37) hn37 rfl
  have h_38 := ne_i (n := 38) hn38 rfl
  have h_39 := ne_i (n := 39) hn39 rfl
  refine r_tsO (tgt := 1363) hO dL_law_40 (by omega) (by decide) ?_
  exact r_wid (Nat.le_succ _) (Nat.le_add_right _ 6) (hk σ)
def f_law (L : Nat) (xs : Nat → Int32) : Nat → Nat → Wd → Option (Int32 × Wd)
  | 0 => fun _ _ => none
  | n + 1 => fun j σ => if nI L - 6 < nI (6 * j) then some (1, σ) else gd (inb (nI (6 * j)) L) (f_law_sw L xs (fun σ => gd (decide (6 * (j + 1) ≤ L)) (f_law L xs n (j + 1) σ)) (nI (6 * j)) (xs (ix (nI (6 * j))) &&& 63) σ)
set_option maxRecDepth 20000 in
set_option maxHeartbeats 1000000 in
theorem b_law {p : Program} {l : Launch} {e : Env} {s : State} {m : MethodId} {below : List Frame} {meth : Method} {c : Code} {b L : Nat} {xs : Nat → Int32} {G : Gh} (hO : Ok (lawK p l e s m below meth c b G) cL_law RL 7 room_1) (hL : LawX (lawK p l e s m below meth c b G) b L xs) (hr : meth.sig.returnType = ret) (hN : L ≤ 3072) : ∀ (n j : Nat) (σ : Wd), 6 * j ≤ L → Cm (lawK p l e s m below meth c b G) 7 (121 + j, 5989 + 6 * j) (f_law L xs n j σ) σ 23 [(0, .ref b), (1, .ref (G.A 0)), (2, .ref (G.A 102)), (3, .ref (G.A 120)), (4, .int (nI (6 * j)))] [] := by
  intro n
  induction n with
  | zero => intro j σ hj; exact r_none
  | succ n ih =>
    intro j σ hj
    have hc1 : (121 + j, 5989 + 6 * j).1 + 1 ≤ room_1.cells := by
      show 121 + j + 1 ≤ 1146
      omega
    have hc2 : (121 + j, 5989 + 6 * j).2 + 6 ≤ room_1.slots := by
      show 5989 + 6 * j + 6 ≤ 14187
      omega
    refine r_iload hO (d := dL_law_23) rfl ?_
    refine r_aload_n (i := 0) hO rfl rfl dL_law_25 ?_
    refine r_sln hO hL dL_law_26 ?_
    refine r_bipush hO bi_6 dL_law_27 ?_
    refine r_isub hO dL_law_29 ?_
    refine r_icmp_gt (tgt := 1369) hO dL_law_30 (by decide) ?_ ?_
    · refine r_iconst hO ci_1 dL_law_1369 ?_
      exact r_lret hO hL hr (Nat.le_of_succ_le hc1) (Nat.le_trans (Nat.le_add_right _ 6) hc2) dL_law_1370
    · refine r_aload_n (i := 0) hO rfl rfl dL_law_33 ?_
      refine r_iload hO (d := dL_law_34) rfl ?_
      refine r_sld hO hL dL_law_36 ?_
      refine r_bipush hO bi_63 dL_law_37 ?_
      refine r_iand hO dL_law_39 ?_
      refine b_law_sw hO hL hc1 hc2 (fun σ => ?_) _ σ
      refine r_gd fun h => ?_
      refine r_iinc hO rfl ci_6 rfl rfl dL_law_1363 ?_
      refine r_goto (tgt := 23) hO dL_law_1366 (by decide) ?_
      rw [nI6]
      exact r_wid (by show 121 + j + 1 ≤ 121 + (j + 1); omega) (by show 5989 + 6 * j + 6 ≤ 5989 + 6 * (j + 1); omega) (r_jmp (ih (j + 1) σ (of_decide_eq_true h)) (lsub_c rfl (lsub_c rfl (lsub_c rfl (lsub_c rfl (lsub_c rfl lsub_n))))))

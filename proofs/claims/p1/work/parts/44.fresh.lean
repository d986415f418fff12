def σA : Wd := wi σ0 0 12 1
def σR : Wd := wi (wi (wi σA 102 0 0) 102 1 1) 102 2 (-1)
theorem bd_s {r : Int32} {σ : Wd} {f : Int32 → Wd → Option (Int32 × Wd)} : bd (some (r, σ)) f = f r σ := rfl
theorem gd_t {e : Option (Int32 × Wd)} : gd true e = e := rfl
theorem isb_0 : isb 0 = true := by decide
theorem isb_1 : isb 1 = true := by decide
theorem i00 : ((0 : Int32) = 0) = True := by simp
theorem i10 : ((1 : Int32) = 0) = False := by simp
theorem h_within (a l h : Int32) (σ : Wd) : f_X6_within a l h σ = some (if a < l then 0 else if h < a then 0 else 1, σ) := by
  unfold f_X6_within f_X6_within_14 f_X6_within_15
  split
  · rfl
  · split <;> rfl
theorem h_in (a l h : Int32) (σ : Wd) : f_X7_in a l h σ = some (if a < l then 0 else if h < a then 0 else 1, σ) := by
  unfold f_X7_in f_X7_in_14 f_X7_in_15
  split
  · rfl
  · split <;> rfl
theorem h_isVenue (v : Int32) : f_X6_isVenue v σ0 = some (0, σ0) := by
  unfold f_X6_isVenue f_X6_isVenue_19 f_X6_isVenue_20
  by_cases h : v < 0
  · rw [if_pos h]; rfl
  · rw [if_neg h]
    show (if (0 : Int32) ≤ v then _ else _) = _
    rw [if_pos (Int32.not_lt.mp h)]
    rfl
theorem h_isLevel (v k : Int32) : f_X6_isLevel v k σ0 = some (0, σ0) := by
  unfold f_X6_isLevel
  rw [h_isVenue]
  rfl
theorem h_granted (a b c : Int32) : f_X6_granted a b c σ0 = some (0, σA) := rfl
theorem h_grantedAmount (a q : Int32) : f_X6_grantedAmount a q σ0 = some (0, σA) := by
  unfold f_X6_grantedAmount
  rw [h_within, bd_s, h_granted]
  rfl
theorem h_planStands : f_X3_planStands 24 σ0 = some (1, σ0) := rfl
theorem A_about (a : Int32) : f_X6_about a σ0 = some ((-1), σA) := by
  first
  | rfl
  | (simp only [f_X6_about, h_isVenue, h_isLevel, h_within, h_granted, h_grantedAmount, h_planStands, bd_s, gd_t, isb_0, isb_1, i00, i10, if_true, if_false, ite_self, nmW]; done)
  | (simp only [f_X6_about, h_isVenue, h_isLevel, h_within, h_granted, h_grantedAmount, h_planStands, bd_s, gd_t, isb_0, isb_1, i00, i10, if_true, if_false, ite_self, nmW]; rfl)
  | (simp only [f_X6_about, h_isVenue, h_isLevel, h_within, h_granted, h_grantedAmount, h_planStands, bd_s, gd_t, isb_0, isb_1, i00, i10, if_true, if_false, ite_self, nmW]; repeat' split
     all_goals rfl)
theorem B_about (a : Int32) : f_X7_about a σA = some ((-1), σR) := by
  first
  | rfl
  | (simp only [f_X7_about, h_in, bd_s, gd_t, isb_0, isb_1, i00, i10, if_true, if_false, ite_self, nmW]; rfl)
  | (simp only [f_X7_about, h_in, bd_s, gd_t, isb_0, isb_1, i00, i10, if_true, if_false, ite_self, nmW]; repeat' split
     all_goals rfl)
theorem A_venue (a b : Int32) : f_X6_venue a b σ0 = some ((-2147483648), σA) := by
  first
  | rfl
  | (simp only [f_X6_venue_24, f_X6_venue_23, f_X6_venue, h_isVenue, h_isLevel, h_within, h_granted, h_grantedAmount, h_planStands, bd_s, gd_t, isb_0, isb_1, i00, i10, if_true, if_false, ite_self, nmW]; done)
  | (simp only [f_X6_venue_24, f_X6_venue_23, f_X6_venue, h_isVenue, h_isLevel, h_within, h_granted, h_grantedAmount, h_planStands, bd_s, gd_t, isb_0, isb_1, i00, i10, if_true, if_false, ite_self, nmW]; rfl)
  | (simp only [f_X6_venue_24, f_X6_venue_23, f_X6_venue, h_isVenue, h_isLevel, h_within, h_granted, h_grantedAmount, h_planStands, bd_s, gd_t, isb_0, isb_1, i00, i10, if_true, if_false, ite_self, nmW]; repeat' split
     all_goals rfl)
theorem B_venue (a b : Int32) : f_X7_venue a b σA = some ((-2147483648), σR) := by
  first
  | rfl
  | (simp only [f_X7_venue, h_in, bd_s, gd_t, isb_0, isb_1, i00, i10, if_true, if_false, ite_self, nmW]; rfl)
  | (simp only [f_X7_venue, h_in, bd_s, gd_t, isb_0, isb_1, i00, i10, if_true, if_false, ite_self, nmW]; repeat' split
     all_goals rfl)
theorem A_level (a b c : Int32) : f_X6_level a b c σ0 = some ((-1), σA) := by
  first
  | rfl
  | (simp only [f_X6_level_68, f_X6_level_24, f_X6_level_23, f_X6_level, h_isVenue, h_isLevel, h_within, h_granted, h_grantedAmount, h_planStands, bd_s, gd_t, isb_0, isb_1, i00, i10, if_true, if_false, ite_self, nmW]; done)
  | (simp only [f_X6_level_68, f_X6_level_24, f_X6_level_23, f_X6_level, h_isVenue, h_isLevel, h_within, h_granted, h_grantedAmount, h_planStands, bd_s, gd_t, isb_0, isb_1, i00, i10, if_true, if_false, ite_self, nmW]; rfl)
  | (simp only [f_X6_level_68, f_X6_level_24, f_X6_level_23, f_X6_level, h_isVenue, h_isLevel, h_within, h_granted, h_grantedAmount, h_planStands, bd_s, gd_t, isb_0, isb_1, i00, i10, if_true, if_false, ite_self, nmW]; repeat' split
     all_goals rfl)
theorem B_level (a b c : Int32) : f_X7_level a b c σA = some ((-1), σR) := by
  first
  | rfl
  | (simp only [f_X7_level_37, f_X7_level_63, f_X7_level, h_in, bd_s, gd_t, isb_0, isb_1, i00, i10, if_true, if_false, ite_self, nmW]; rfl)
  | (simp only [f_X7_level_37, f_X7_level_63, f_X7_level, h_in, bd_s, gd_t, isb_0, isb_1, i00, i10, if_true, if_false, ite_self, nmW]; repeat' split
     all_goals rfl)
theorem A_charge (a b : Int32) : f_X6_charge a b σ0 = some ((-2147483648), σA) := by
  first
  | rfl
  | (simp only [f_X6_charge, h_isVenue, h_isLevel, h_within, h_granted, h_grantedAmount, h_planStands, bd_s, gd_t, isb_0, isb_1, i00, i10, if_true, if_false, ite_self, nmW]; done)
  | (simp only [f_X6_charge, h_isVenue, h_isLevel, h_within, h_granted, h_grantedAmount, h_planStands, bd_s, gd_t, isb_0, isb_1, i00, i10, if_true, if_false, ite_self, nmW]; rfl)
  | (simp only [f_X6_charge, h_isVenue, h_isLevel, h_within, h_granted, h_grantedAmount, h_planStands, bd_s, gd_t, isb_0, isb_1, i00, i10, if_true, if_false, ite_self, nmW]; repeat' split
     all_goals rfl)
theorem B_charge (a b : Int32) : f_X7_charge a b σA = some ((-2147483648), σR) := by
  first
  | rfl
  | (simp only [f_X7_charge_47, f_X7_charge, h_in, bd_s, gd_t, isb_0, isb_1, i00, i10, if_true, if_false, ite_self, nmW]; rfl)
  | (simp only [f_X7_charge_47, f_X7_charge, h_in, bd_s, gd_t, isb_0, isb_1, i00, i10, if_true, if_false, ite_self, nmW]; repeat' split
     all_goals rfl)
theorem A_cost (a b : Int32) : f_X6_cost a b σ0 = some ((-2147483648), σA) := by
  first
  | rfl
  | (simp only [f_X6_cost_31, f_X6_cost_30, f_X6_cost, h_isVenue, h_isLevel, h_within, h_granted, h_grantedAmount, h_planStands, bd_s, gd_t, isb_0, isb_1, i00, i10, if_true, if_false, ite_self, nmW]; done)
  | (simp only [f_X6_cost_31, f_X6_cost_30, f_X6_cost, h_isVenue, h_isLevel, h_within, h_granted, h_grantedAmount, h_planStands, bd_s, gd_t, isb_0, isb_1, i00, i10, if_true, if_false, ite_self, nmW]; rfl)
  | (simp only [f_X6_cost_31, f_X6_cost_30, f_X6_cost, h_isVenue, h_isLevel, h_within, h_granted, h_grantedAmount, h_planStands, bd_s, gd_t, isb_0, isb_1, i00, i10, if_true, if_false, ite_self, nmW]; repeat' split
     all_goals rfl)
theorem B_cost (a b : Int32) : f_X7_cost a b σA = some ((-2147483648), σR) := by
  first
  | rfl
  | (simp only [f_X7_cost_56, f_X7_cost_51, f_X7_cost, h_in, bd_s, gd_t, isb_0, isb_1, i00, i10, if_true, if_false, ite_self, nmW]; rfl)
  | (simp only [f_X7_cost_56, f_X7_cost_51, f_X7_cost, h_in, bd_s, gd_t, isb_0, isb_1, i00, i10, if_true, if_false, ite_self, nmW]; repeat' split
     all_goals rfl)
theorem A_under (a b : Int32) : f_X6_under a b σ0 = some ((-1), σA) := by
  first
  | rfl
  | (simp only [f_X6_under, h_isVenue, h_isLevel, h_within, h_granted, h_grantedAmount, h_planStands, bd_s, gd_t, isb_0, isb_1, i00, i10, if_true, if_false, ite_self, nmW]; done)
  | (simp only [f_X6_under, h_isVenue, h_isLevel, h_within, h_granted, h_grantedAmount, h_planStands, bd_s, gd_t, isb_0, isb_1, i00, i10, if_true, if_false, ite_self, nmW]; rfl)
  | (simp only [f_X6_under, h_isVenue, h_isLevel, h_within, h_granted, h_grantedAmount, h_planStands, bd_s, gd_t, isb_0, isb_1, i00, i10, if_true, if_false, ite_self, nmW]; repeat' split
     all_goals rfl)
theorem B_under (a b : Int32) : f_X7_under a b σA = some ((-1), σR) := by
  first
  | rfl
  | (simp only [f_X7_under_48, f_X7_under, h_in, bd_s, gd_t, isb_0, isb_1, i00, i10, if_true, if_false, ite_self, nmW]; rfl)
  | (simp only [f_X7_under_48, f_X7_under, h_in, bd_s, gd_t, isb_0, isb_1, i00, i10, if_true, if_false, ite_self, nmW]; repeat' split
     all_goals rfl)
theorem A_units (a : Int32) : f_X6_units a σ0 = some ((-1), σA) := by
  first
  | rfl
  | (simp only [f_X6_units, h_isVenue, h_isLevel, h_within, h_granted, h_grantedAmount, h_planStands, bd_s, gd_t, isb_0, isb_1, i00, i10, if_true, if_false, ite_self, nmW]; done)
  | (simp only [f_X6_units, h_isVenue, h_isLevel, h_within, h_granted, h_grantedAmount, h_planStands, bd_s, gd_t, isb_0, isb_1, i00, i10, if_true, if_false, ite_self, nmW]; rfl)
  | (simp only [f_X6_units, h_isVenue, h_isLevel, h_within, h_granted, h_grantedAmount, h_planStands, bd_s, gd_t, isb_0, isb_1, i00, i10, if_true, if_false, ite_self, nmW]; repeat' split
     all_goals rfl)
theorem B_units (a : Int32) : f_X7_units a σA = some ((-1), σR) := by
  first
  | rfl
  | (simp only [f_X7_units, h_in, bd_s, gd_t, isb_0, isb_1, i00, i10, if_true, if_false, ite_self, nmW]; rfl)
  | (simp only [f_X7_units, h_in, bd_s, gd_t, isb_0, isb_1, i00, i10, if_true, if_false, ite_self, nmW]; repeat' split
     all_goals rfl)
theorem A_best (a : Int32) : f_X6_best a σ0 = some ((-2147483648), σA) := by
  first
  | rfl
  | (simp only [f_X6_best, h_isVenue, h_isLevel, h_within, h_granted, h_grantedAmount, h_planStands, bd_s, gd_t, isb_0, isb_1, i00, i10, if_true, if_false, ite_self, nmW]; done)
  | (simp only [f_X6_best, h_isVenue, h_isLevel, h_within, h_granted, h_grantedAmount, h_planStands, bd_s, gd_t, isb_0, isb_1, i00, i10, if_true, if_false, ite_self, nmW]; rfl)
  | (simp only [f_X6_best, h_isVenue, h_isLevel, h_within, h_granted, h_grantedAmount, h_planStands, bd_s, gd_t, isb_0, isb_1, i00, i10, if_true, if_false, ite_self, nmW]; repeat' split
     all_goals rfl)
theorem B_best (a : Int32) : f_X7_best a σA = some ((-2147483648), σR) := by
  first
  | rfl
  | (simp only [f_X7_best, h_in, bd_s, gd_t, isb_0, isb_1, i00, i10, if_true, if_false, ite_self, nmW]; rfl)
  | (simp only [f_X7_best, h_in, bd_s, gd_t, isb_0, isb_1, i00, i10, if_true, if_false, ite_self, nmW]; repeat' split
     all_goals rfl)
theorem A_share (a b : Int32) : f_X6_share a b σ0 = some ((-1), σA) := by
  first
  | rfl
  | (simp only [f_X6_share, h_isVenue, h_isLevel, h_within, h_granted, h_grantedAmount, h_planStands, bd_s, gd_t, isb_0, isb_1, i00, i10, if_true, if_false, ite_self, nmW]; done)
  | (simp only [f_X6_share, h_isVenue, h_isLevel, h_within, h_granted, h_grantedAmount, h_planStands, bd_s, gd_t, isb_0, isb_1, i00, i10, if_true, if_false, ite_self, nmW]; rfl)
  | (simp only [f_X6_share, h_isVenue, h_isLevel, h_within, h_granted, h_grantedAmount, h_planStands, bd_s, gd_t, isb_0, isb_1, i00, i10, if_true, if_false, ite_self, nmW]; repeat' split
     all_goals rfl)
theorem B_share (a b : Int32) : f_X7_share a b σA = some ((-1), σR) := by
  first
  | rfl
  | (simp only [f_X7_share, h_in, bd_s, gd_t, isb_0, isb_1, i00, i10, if_true, if_false, ite_self, nmW]; rfl)
  | (simp only [f_X7_share, h_in, bd_s, gd_t, isb_0, isb_1, i00, i10, if_true, if_false, ite_self, nmW]; repeat' split
     all_goals rfl)
theorem A_bound (a : Int32) : f_X6_bound a σ0 = some ((-2147483648), σA) := by
  first
  | rfl
  | (simp only [f_X6_bound, h_isVenue, h_isLevel, h_within, h_granted, h_grantedAmount, h_planStands, bd_s, gd_t, isb_0, isb_1, i00, i10, if_true, if_false, ite_self, nmW]; done)
  | (simp only [f_X6_bound, h_isVenue, h_isLevel, h_within, h_granted, h_grantedAmount, h_planStands, bd_s, gd_t, isb_0, isb_1, i00, i10, if_true, if_false, ite_self, nmW]; rfl)
  | (simp only [f_X6_bound, h_isVenue, h_isLevel, h_within, h_granted, h_grantedAmount, h_planStands, bd_s, gd_t, isb_0, isb_1, i00, i10, if_true, if_false, ite_self, nmW]; repeat' split
     all_goals rfl)
theorem B_bound (a : Int32) : f_X7_bound a σA = some ((-2147483648), σR) := by
  first
  | rfl
  | (simp only [f_X7_bound_33, f_X7_bound, h_in, bd_s, gd_t, isb_0, isb_1, i00, i10, if_true, if_false, ite_self, nmW]; rfl)
  | (simp only [f_X7_bound_33, f_X7_bound, h_in, bd_s, gd_t, isb_0, isb_1, i00, i10, if_true, if_false, ite_self, nmW]; repeat' split
     all_goals rfl)
theorem A_margin (a : Int32) : f_X6_margin a σ0 = some ((-2147483648), σA) := by
  first
  | rfl
  | (simp only [f_X6_margin, h_isVenue, h_isLevel, h_within, h_granted, h_grantedAmount, h_planStands, bd_s, gd_t, isb_0, isb_1, i00, i10, if_true, if_false, ite_self, nmW]; done)
  | (simp only [f_X6_margin, h_isVenue, h_isLevel, h_within, h_granted, h_grantedAmount, h_planStands, bd_s, gd_t, isb_0, isb_1, i00, i10, if_true, if_false, ite_self, nmW]; rfl)
  | (simp only [f_X6_margin, h_isVenue, h_isLevel, h_within, h_granted, h_grantedAmount, h_planStands, bd_s, gd_t, isb_0, isb_1, i00, i10, if_true, if_false, ite_self, nmW]; repeat' split
     all_goals rfl)
theorem B_margin (a : Int32) : f_X7_margin a σA = some ((-2147483648), σR) := by
  first
  | rfl
  | (simp only [f_X7_margin, h_in, bd_s, gd_t, isb_0, isb_1, i00, i10, if_true, if_false, ite_self, nmW]; rfl)
  | (simp only [f_X7_margin, h_in, bd_s, gd_t, isb_0, isb_1, i00, i10, if_true, if_false, ite_self, nmW]; repeat' split
     all_goals rfl)
theorem A_gap (a : Int32) : f_X6_gap a σ0 = some ((-1), σA) := by
  first
  | rfl
  | (simp only [f_X6_gap, h_isVenue, h_isLevel, h_within, h_granted, h_grantedAmount, h_planStands, bd_s, gd_t, isb_0, isb_1, i00, i10, if_true, if_false, ite_self, nmW]; done)
  | (simp only [f_X6_gap, h_isVenue, h_isLevel, h_within, h_granted, h_grantedAmount, h_planStands, bd_s, gd_t, isb_0, isb_1, i00, i10, if_true, if_false, ite_self, nmW]; rfl)
  | (simp only [f_X6_gap, h_isVenue, h_isLevel, h_within, h_granted, h_grantedAmount, h_planStands, bd_s, gd_t, isb_0, isb_1, i00, i10, if_true, if_false, ite_self, nmW]; repeat' split
     all_goals rfl)
theorem B_gap (a : Int32) : f_X7_gap a σA = some ((-1), σR) := by
  first
  | rfl
  | (simp only [f_X7_gap, h_in, bd_s, gd_t, isb_0, isb_1, i00, i10, if_true, if_false, ite_self, nmW]; rfl)
  | (simp only [f_X7_gap, h_in, bd_s, gd_t, isb_0, isb_1, i00, i10, if_true, if_false, ite_self, nmW]; repeat' split
     all_goals rfl)
theorem A_greedy (a b : Int32) : f_X6_greedy a b σ0 = some ((-2147483648), σA) := by
  first
  | rfl
  | (simp only [f_X6_greedy, h_isVenue, h_isLevel, h_within, h_granted, h_grantedAmount, h_planStands, bd_s, gd_t, isb_0, isb_1, i00, i10, if_true, if_false, ite_self, nmW]; done)
  | (simp only [f_X6_greedy, h_isVenue, h_isLevel, h_within, h_granted, h_grantedAmount, h_planStands, bd_s, gd_t, isb_0, isb_1, i00, i10, if_true, if_false, ite_self, nmW]; rfl)
  | (simp only [f_X6_greedy, h_isVenue, h_isLevel, h_within, h_granted, h_grantedAmount, h_planStands, bd_s, gd_t, isb_0, isb_1, i00, i10, if_true, if_false, ite_self, nmW]; repeat' split
     all_goals rfl)
theorem B_greedy (a b : Int32) : f_X7_greedy a b σA = some ((-2147483648), σR) := by
  first
  | rfl
  | (simp only [f_X7_greedy_160, f_X7_greedy_190, f_X7_greedy_114, f_X7_greedy_61, f_X7_greedy_30, f_X7_greedy, h_in, bd_s, gd_t, isb_0, isb_1, i00, i10, if_true, if_false, ite_self, nmW]; rfl)
  | (simp only [f_X7_greedy_160, f_X7_greedy_190, f_X7_greedy_114, f_X7_greedy_61, f_X7_greedy_30, f_X7_greedy, h_in, bd_s, gd_t, isb_0, isb_1, i00, i10, if_true, if_false, ite_self, nmW]; repeat' split
     all_goals rfl)
theorem A_worth (a b : Int32) : f_X6_worth a b σ0 = some ((-1), σA) := by
  first
  | rfl
  | (simp only [f_X6_worth_84, f_X6_worth, h_isVenue, h_isLevel, h_within, h_granted, h_grantedAmount, h_planStands, bd_s, gd_t, isb_0, isb_1, i00, i10, if_true, if_false, ite_self, nmW]; done)
  | (simp only [f_X6_worth_84, f_X6_worth, h_isVenue, h_isLevel, h_within, h_granted, h_grantedAmount, h_planStands, bd_s, gd_t, isb_0, isb_1, i00, i10, if_true, if_false, ite_self, nmW]; rfl)
  | (simp only [f_X6_worth_84, f_X6_worth, h_isVenue, h_isLevel, h_within, h_granted, h_grantedAmount, h_planStands, bd_s, gd_t, isb_0, isb_1, i00, i10, if_true, if_false, ite_self, nmW]; repeat' split
     all_goals rfl)
theorem B_worth (a b : Int32) : f_X7_worth a b σA = some ((-1), σR) := by
  first
  | rfl
  | (simp only [f_X7_worth_72, f_X7_worth, h_in, bd_s, gd_t, isb_0, isb_1, i00, i10, if_true, if_false, ite_self, nmW]; rfl)
  | (simp only [f_X7_worth_72, f_X7_worth, h_in, bd_s, gd_t, isb_0, isb_1, i00, i10, if_true, if_false, ite_self, nmW]; repeat' split
     all_goals rfl)
theorem A_fewest (a : Int32) : f_X6_fewest a σ0 = some ((-1), σA) := by
  first
  | rfl
  | (simp only [f_X6_fewest, h_isVenue, h_isLevel, h_within, h_granted, h_grantedAmount, h_planStands, bd_s, gd_t, isb_0, isb_1, i00, i10, if_true, if_false, ite_self, nmW]; done)
  | (simp only [f_X6_fewest, h_isVenue, h_isLevel, h_within, h_granted, h_grantedAmount, h_planStands, bd_s, gd_t, isb_0, isb_1, i00, i10, if_true, if_false, ite_self, nmW]; rfl)
  | (simp only [f_X6_fewest, h_isVenue, h_isLevel, h_within, h_granted, h_grantedAmount, h_planStands, bd_s, gd_t, isb_0, isb_1, i00, i10, if_true, if_false, ite_self, nmW]; repeat' split
     all_goals rfl)
theorem B_fewest (a : Int32) : f_X7_fewest a σA = some ((-1), σR) := by
  first
  | rfl
  | (simp only [f_X7_fewest_108, f_X7_fewest_59, f_X7_fewest_42, f_X7_fewest, h_in, bd_s, gd_t, isb_0, isb_1, i00, i10, if_true, if_false, ite_self, nmW]; rfl)
  | (simp only [f_X7_fewest_108, f_X7_fewest_59, f_X7_fewest_42, f_X7_fewest, h_in, bd_s, gd_t, isb_0, isb_1, i00, i10, if_true, if_false, ite_self, nmW]; repeat' split
     all_goals rfl)
theorem A_plan (a b : Int32) : f_X6_plan a b σ0 = some ((-1), σA) := by
  first
  | rfl
  | (simp only [f_X6_plan_46, f_X6_plan_31, f_X6_plan_30, f_X6_plan, h_isVenue, h_isLevel, h_within, h_granted, h_grantedAmount, h_planStands, bd_s, gd_t, isb_0, isb_1, i00, i10, if_true, if_false, ite_self, nmW]; done)
  | (simp only [f_X6_plan_46, f_X6_plan_31, f_X6_plan_30, f_X6_plan, h_isVenue, h_isLevel, h_within, h_granted, h_grantedAmount, h_planStands, bd_s, gd_t, isb_0, isb_1, i00, i10, if_true, if_false, ite_self, nmW]; rfl)
  | (simp only [f_X6_plan_46, f_X6_plan_31, f_X6_plan_30, f_X6_plan, h_isVenue, h_isLevel, h_within, h_granted, h_grantedAmount, h_planStands, bd_s, gd_t, isb_0, isb_1, i00, i10, if_true, if_false, ite_self, nmW]; repeat' split
     all_goals rfl)
theorem B_plan (a b : Int32) : f_X7_plan a b σA = some ((-1), σR) := by
  first
  | rfl
  | (simp only [f_X7_plan_54, f_X7_plan, h_in, bd_s, gd_t, isb_0, isb_1, i00, i10, if_true, if_false, ite_self, nmW]; rfl)
  | (simp only [f_X7_plan_54, f_X7_plan, h_in, bd_s, gd_t, isb_0, isb_1, i00, i10, if_true, if_false, ite_self, nmW]; repeat' split
     all_goals rfl)
theorem A_planned (a : Int32) : f_X6_planned a σ0 = some ((-2147483648), σA) := by
  first
  | rfl
  | (simp only [f_X6_planned, h_isVenue, h_isLevel, h_within, h_granted, h_grantedAmount, h_planStands, bd_s, gd_t, isb_0, isb_1, i00, i10, if_true, if_false, ite_self, nmW]; done)
  | (simp only [f_X6_planned, h_isVenue, h_isLevel, h_within, h_granted, h_grantedAmount, h_planStands, bd_s, gd_t, isb_0, isb_1, i00, i10, if_true, if_false, ite_self, nmW]; rfl)
  | (simp only [f_X6_planned, h_isVenue, h_isLevel, h_within, h_granted, h_grantedAmount, h_planStands, bd_s, gd_t, isb_0, isb_1, i00, i10, if_true, if_false, ite_self, nmW]; repeat' split
     all_goals rfl)
theorem B_planned (a : Int32) : f_X7_planned a σA = some ((-2147483648), σR) := by
  first
  | rfl
  | (simp only [f_X7_planned_21, f_X7_planned, h_in, bd_s, gd_t, isb_0, isb_1, i00, i10, if_true, if_false, ite_self, nmW]; rfl)
  | (simp only [f_X7_planned_21, f_X7_planned, h_in, bd_s, gd_t, isb_0, isb_1, i00, i10, if_true, if_false, ite_self, nmW]; repeat' split
     all_goals rfl)
theorem A_move : f_X6_move  σ0 = some ((-1), σA) := by
  first
  | rfl
  | (simp only [f_X6_move_80, f_X6_move_39, f_X6_move_25, f_X6_move, h_isVenue, h_isLevel, h_within, h_granted, h_grantedAmount, h_planStands, bd_s, gd_t, isb_0, isb_1, i00, i10, if_true, if_false, ite_self, nmW]; done)
  | (simp only [f_X6_move_80, f_X6_move_39, f_X6_move_25, f_X6_move, h_isVenue, h_isLevel, h_within, h_granted, h_grantedAmount, h_planStands, bd_s, gd_t, isb_0, isb_1, i00, i10, if_true, if_false, ite_self, nmW]; rfl)
  | (simp only [f_X6_move_80, f_X6_move_39, f_X6_move_25, f_X6_move, h_isVenue, h_isLevel, h_within, h_granted, h_grantedAmount, h_planStands, bd_s, gd_t, isb_0, isb_1, i00, i10, if_true, if_false, ite_self, nmW]; repeat' split
     all_goals rfl)
theorem B_move : f_X7_move  σA = some ((-1), σR) := by
  first
  | rfl
  | (simp only [f_X7_move_210, f_X7_move_49, f_X7_move_38, f_X7_move, h_in, bd_s, gd_t, isb_0, isb_1, i00, i10, if_true, if_false, ite_self, nmW]; rfl)
  | (simp only [f_X7_move_210, f_X7_move_49, f_X7_move_38, f_X7_move, h_in, bd_s, gd_t, isb_0, isb_1, i00, i10, if_true, if_false, ite_self, nmW]; repeat' split
     all_goals rfl)
theorem A_now (a : Int32) : f_X6_now a σ0 = some ((-2147483648), σA) := by
  first
  | rfl
  | (simp only [f_X6_now, h_isVenue, h_isLevel, h_within, h_granted, h_grantedAmount, h_planStands, bd_s, gd_t, isb_0, isb_1, i00, i10, if_true, if_false, ite_self, nmW]; done)
  | (simp only [f_X6_now, h_isVenue, h_isLevel, h_within, h_granted, h_grantedAmount, h_planStands, bd_s, gd_t, isb_0, isb_1, i00, i10, if_true, if_false, ite_self, nmW]; rfl)
  | (simp only [f_X6_now, h_isVenue, h_isLevel, h_within, h_granted, h_grantedAmount, h_planStands, bd_s, gd_t, isb_0, isb_1, i00, i10, if_true, if_false, ite_self, nmW]; repeat' split
     all_goals rfl)
theorem B_now (a : Int32) : f_X7_now a σA = some ((-2147483648), σR) := by
  first
  | rfl
  | (simp only [f_X7_now_38, f_X7_now, h_in, bd_s, gd_t, isb_0, isb_1, i00, i10, if_true, if_false, ite_self, nmW]; rfl)
  | (simp only [f_X7_now_38, f_X7_now, h_in, bd_s, gd_t, isb_0, isb_1, i00, i10, if_true, if_false, ite_self, nmW]; repeat' split
     all_goals rfl)
theorem A_part (a b : Int32) : f_X6_part a b σ0 = some ((-2147483648), σA) := by
  first
  | rfl
  | (simp only [f_X6_part_24, f_X6_part_23, f_X6_part, h_isVenue, h_isLevel, h_within, h_granted, h_grantedAmount, h_planStands, bd_s, gd_t, isb_0, isb_1, i00, i10, if_true, if_false, ite_self, nmW]; done)
  | (simp only [f_X6_part_24, f_X6_part_23, f_X6_part, h_isVenue, h_isLevel, h_within, h_granted, h_grantedAmount, h_planStands, bd_s, gd_t, isb_0, isb_1, i00, i10, if_true, if_false, ite_self, nmW]; rfl)
  | (simp only [f_X6_part_24, f_X6_part_23, f_X6_part, h_isVenue, h_isLevel, h_within, h_granted, h_grantedAmount, h_planStands, bd_s, gd_t, isb_0, isb_1, i00, i10, if_true, if_false, ite_self, nmW]; repeat' split
     all_goals rfl)
theorem B_part (a b : Int32) : f_X7_part a b σA = some ((-2147483648), σR) := by
  first
  | rfl
  | (simp only [f_X7_part_55, f_X7_part_29, f_X7_part_28, f_X7_part, h_in, bd_s, gd_t, isb_0, isb_1, i00, i10, if_true, if_false, ite_self, nmW]; rfl)
  | (simp only [f_X7_part_55, f_X7_part_29, f_X7_part_28, f_X7_part, h_in, bd_s, gd_t, isb_0, isb_1, i00, i10, if_true, if_false, ite_self, nmW]; repeat' split
     all_goals rfl)
theorem A_entries : f_X6_entries  σ0 = some ((-1), σA) := by
  first
  | rfl
  | (simp only [f_X6_entries, h_isVenue, h_isLevel, h_within, h_granted, h_grantedAmount, h_planStands, bd_s, gd_t, isb_0, isb_1, i00, i10, if_true, if_false, ite_self, nmW]; done)
  | (simp only [f_X6_entries, h_isVenue, h_isLevel, h_within, h_granted, h_grantedAmount, h_planStands, bd_s, gd_t, isb_0, isb_1, i00, i10, if_true, if_false, ite_self, nmW]; rfl)
  | (simp only [f_X6_entries, h_isVenue, h_isLevel, h_within, h_granted, h_grantedAmount, h_planStands, bd_s, gd_t, isb_0, isb_1, i00, i10, if_true, if_false, ite_self, nmW]; repeat' split
     all_goals rfl)
theorem B_entries : f_X7_entries  σA = some ((-1), σR) := by
  first
  | rfl
  | (simp only [f_X7_entries_34, f_X7_entries, h_in, bd_s, gd_t, isb_0, isb_1, i00, i10, if_true, if_false, ite_self, nmW]; rfl)
  | (simp only [f_X7_entries_34, f_X7_entries, h_in, bd_s, gd_t, isb_0, isb_1, i00, i10, if_true, if_false, ite_self, nmW]; repeat' split
     all_goals rfl)
theorem A_entry (a b : Int32) : f_X6_entry a b σ0 = some ((-1), σA) := by
  first
  | rfl
  | (simp only [f_X6_entry_35, f_X6_entry_34, f_X6_entry, h_isVenue, h_isLevel, h_within, h_granted, h_grantedAmount, h_planStands, bd_s, gd_t, isb_0, isb_1, i00, i10, if_true, if_false, ite_self, nmW]; done)
  | (simp only [f_X6_entry_35, f_X6_entry_34, f_X6_entry, h_isVenue, h_isLevel, h_within, h_granted, h_grantedAmount, h_planStands, bd_s, gd_t, isb_0, isb_1, i00, i10, if_true, if_false, ite_self, nmW]; rfl)
  | (simp only [f_X6_entry_35, f_X6_entry_34, f_X6_entry, h_isVenue, h_isLevel, h_within, h_granted, h_grantedAmount, h_planStands, bd_s, gd_t, isb_0, isb_1, i00, i10, if_true, if_false, ite_self, nmW]; repeat' split
     all_goals rfl)
theorem B_entry (a b : Int32) : f_X7_entry a b σA = some ((-1), σR) := by
  first
  | rfl
  | (simp only [f_X7_entry_77, f_X7_entry_44, f_X7_entry_43, f_X7_entry, h_in, bd_s, gd_t, isb_0, isb_1, i00, i10, if_true, if_false, ite_self, nmW]; rfl)
  | (simp only [f_X7_entry_77, f_X7_entry_44, f_X7_entry_43, f_X7_entry, h_in, bd_s, gd_t, isb_0, isb_1, i00, i10, if_true, if_false, ite_self, nmW]; repeat' split
     all_goals rfl)
theorem A_bought (a b : Int32) : f_X6_bought a b σ0 = some ((-1), σA) := by
  first
  | rfl
  | (simp only [f_X6_bought, h_isVenue, h_isLevel, h_within, h_granted, h_grantedAmount, h_planStands, bd_s, gd_t, isb_0, isb_1, i00, i10, if_true, if_false, ite_self, nmW]; done)
  | (simp only [f_X6_bought, h_isVenue, h_isLevel, h_within, h_granted, h_grantedAmount, h_planStands, bd_s, gd_t, isb_0, isb_1, i00, i10, if_true, if_false, ite_self, nmW]; rfl)
  | (simp only [f_X6_bought, h_isVenue, h_isLevel, h_within, h_granted, h_grantedAmount, h_planStands, bd_s, gd_t, isb_0, isb_1, i00, i10, if_true, if_false, ite_self, nmW]; repeat' split
     all_goals rfl)
theorem B_bought (a b : Int32) : f_X7_bought a b σA = some ((-1), σR) := by
  first
  | rfl
  | (simp only [f_X7_bought_87, f_X7_bought_28, f_X7_bought, h_in, bd_s, gd_t, isb_0, isb_1, i00, i10, if_true, if_false, ite_self, nmW]; rfl)
  | (simp only [f_X7_bought_87, f_X7_bought_28, f_X7_bought, h_in, bd_s, gd_t, isb_0, isb_1, i00, i10, if_true, if_false, ite_self, nmW]; repeat' split
     all_goals rfl)
theorem A_will (a : Int32) : f_X6_will a σ0 = some ((-2147483648), σA) := by
  first
  | rfl
  | (simp only [f_X6_will_91, f_X6_will_49, f_X6_will, h_isVenue, h_isLevel, h_within, h_granted, h_grantedAmount, h_planStands, bd_s, gd_t, isb_0, isb_1, i00, i10, if_true, if_false, ite_self, nmW]; done)
  | (simp only [f_X6_will_91, f_X6_will_49, f_X6_will, h_isVenue, h_isLevel, h_within, h_granted, h_grantedAmount, h_planStands, bd_s, gd_t, isb_0, isb_1, i00, i10, if_true, if_false, ite_self, nmW]; rfl)
  | (simp only [f_X6_will_91, f_X6_will_49, f_X6_will, h_isVenue, h_isLevel, h_within, h_granted, h_grantedAmount, h_planStands, bd_s, gd_t, isb_0, isb_1, i00, i10, if_true, if_false, ite_self, nmW]; repeat' split
     all_goals rfl)
theorem B_will (a : Int32) : f_X7_will a σA = some ((-2147483648), σR) := by
  first
  | rfl
  | (simp only [f_X7_will_65, f_X7_will_40, f_X7_will, h_in, bd_s, gd_t, isb_0, isb_1, i00, i10, if_true, if_false, ite_self, nmW]; rfl)
  | (simp only [f_X7_will_65, f_X7_will_40, f_X7_will, h_in, bd_s, gd_t, isb_0, isb_1, i00, i10, if_true, if_false, ite_self, nmW]; repeat' split
     all_goals rfl)
theorem A_adopt (a : Int32) : f_X6_adopt a σ0 = some ((-1), σA) := by
  first
  | rfl
  | (simp only [f_X6_adopt_52, f_X6_adopt_29, f_X6_adopt, h_isVenue, h_isLevel, h_within, h_granted, h_grantedAmount, h_planStands, bd_s, gd_t, isb_0, isb_1, i00, i10, if_true, if_false, ite_self, nmW]; done)
  | (simp only [f_X6_adopt_52, f_X6_adopt_29, f_X6_adopt, h_isVenue, h_isLevel, h_within, h_granted, h_grantedAmount, h_planStands, bd_s, gd_t, isb_0, isb_1, i00, i10, if_true, if_false, ite_self, nmW]; rfl)
  | (simp only [f_X6_adopt_52, f_X6_adopt_29, f_X6_adopt, h_isVenue, h_isLevel, h_within, h_granted, h_grantedAmount, h_planStands, bd_s, gd_t, isb_0, isb_1, i00, i10, if_true, if_false, ite_self, nmW]; repeat' split
     all_goals rfl)
theorem B_adopt (a : Int32) : f_X7_adopt a σA = some ((-1), σR) := by
  first
  | rfl
  | (simp only [f_X7_adopt_64, f_X7_adopt, h_in, bd_s, gd_t, isb_0, isb_1, i00, i10, if_true, if_false, ite_self, nmW]; rfl)
  | (simp only [f_X7_adopt_64, f_X7_adopt, h_in, bd_s, gd_t, isb_0, isb_1, i00, i10, if_true, if_false, ite_self, nmW]; repeat' split
     all_goals rfl)
theorem A_fee (a b : Int32) : f_X6_fee a b σ0 = some ((-2147483648), σA) := by
  first
  | rfl
  | (simp only [f_X6_fee_29, f_X6_fee, h_isVenue, h_isLevel, h_within, h_granted, h_grantedAmount, h_planStands, bd_s, gd_t, isb_0, isb_1, i00, i10, if_true, if_false, ite_self, nmW]; done)
  | (simp only [f_X6_fee_29, f_X6_fee, h_isVenue, h_isLevel, h_within, h_granted, h_grantedAmount, h_planStands, bd_s, gd_t, isb_0, isb_1, i00, i10, if_true, if_false, ite_self, nmW]; rfl)
  | (simp only [f_X6_fee_29, f_X6_fee, h_isVenue, h_isLevel, h_within, h_granted, h_grantedAmount, h_planStands, bd_s, gd_t, isb_0, isb_1, i00, i10, if_true, if_false, ite_self, nmW]; repeat' split
     all_goals rfl)
theorem B_fee (a b : Int32) : f_X7_fee a b σA = some ((-2147483648), σR) := by
  first
  | rfl
  | (simp only [f_X7_fee, h_in, bd_s, gd_t, isb_0, isb_1, i00, i10, if_true, if_false, ite_self, nmW]; rfl)
  | (simp only [f_X7_fee, h_in, bd_s, gd_t, isb_0, isb_1, i00, i10, if_true, if_false, ite_self, nmW]; repeat' split
     all_goals rfl)
theorem A_resize (a b c : Int32) : f_X6_resize a b c σ0 = some ((-1), σA) := by
  first
  | rfl
  | (simp only [f_X6_resize, h_isVenue, h_isLevel, h_within, h_granted, h_grantedAmount, h_planStands, bd_s, gd_t, isb_0, isb_1, i00, i10, if_true, if_false, ite_self, nmW]; done)
  | (simp only [f_X6_resize, h_isVenue, h_isLevel, h_within, h_granted, h_grantedAmount, h_planStands, bd_s, gd_t, isb_0, isb_1, i00, i10, if_true, if_false, ite_self, nmW]; rfl)
  | (simp only [f_X6_resize, h_isVenue, h_isLevel, h_within, h_granted, h_grantedAmount, h_planStands, bd_s, gd_t, isb_0, isb_1, i00, i10, if_true, if_false, ite_self, nmW]; repeat' split
     all_goals rfl)
theorem B_resize (a b c : Int32) : f_X7_resize a b c σA = some ((-1), σR) := by
  first
  | rfl
  | (simp only [f_X7_resize_28, f_X7_resize, h_in, bd_s, gd_t, isb_0, isb_1, i00, i10, if_true, if_false, ite_self, nmW]; rfl)
  | (simp only [f_X7_resize_28, f_X7_resize, h_in, bd_s, gd_t, isb_0, isb_1, i00, i10, if_true, if_false, ite_self, nmW]; repeat' split
     all_goals rfl)
theorem A_order (a : Int32) : f_X6_order a σ0 = some ((-1), σA) := by
  first
  | rfl
  | (simp only [f_X6_order_24, f_X6_order, h_isVenue, h_isLevel, h_within, h_granted, h_grantedAmount, h_planStands, bd_s, gd_t, isb_0, isb_1, i00, i10, if_true, if_false, ite_self, nmW]; done)
  | (simp only [f_X6_order_24, f_X6_order, h_isVenue, h_isLevel, h_within, h_granted, h_grantedAmount, h_planStands, bd_s, gd_t, isb_0, isb_1, i00, i10, if_true, if_false, ite_self, nmW]; rfl)
  | (simp only [f_X6_order_24, f_X6_order, h_isVenue, h_isLevel, h_within, h_granted, h_grantedAmount, h_planStands, bd_s, gd_t, isb_0, isb_1, i00, i10, if_true, if_false, ite_self, nmW]; repeat' split
     all_goals rfl)
theorem B_order (a : Int32) : f_X7_order a σA = some ((-1), σR) := by
  first
  | rfl
  | (simp only [f_X7_order, h_in, bd_s, gd_t, isb_0, isb_1, i00, i10, if_true, if_false, ite_self, nmW]; rfl)
  | (simp only [f_X7_order, h_in, bd_s, gd_t, isb_0, isb_1, i00, i10, if_true, if_false, ite_self, nmW]; repeat' split
     all_goals rfl)
theorem A_begin : f_X6_begin  σ0 = some ((-1), σA) := by
  first
  | rfl
  | (simp only [f_X6_begin_18, f_X6_begin, h_isVenue, h_isLevel, h_within, h_granted, h_grantedAmount, h_planStands, bd_s, gd_t, isb_0, isb_1, i00, i10, if_true, if_false, ite_self, nmW]; done)
  | (simp only [f_X6_begin_18, f_X6_begin, h_isVenue, h_isLevel, h_within, h_granted, h_grantedAmount, h_planStands, bd_s, gd_t, isb_0, isb_1, i00, i10, if_true, if_false, ite_self, nmW]; rfl)
  | (simp only [f_X6_begin_18, f_X6_begin, h_isVenue, h_isLevel, h_within, h_granted, h_grantedAmount, h_planStands, bd_s, gd_t, isb_0, isb_1, i00, i10, if_true, if_false, ite_self, nmW]; repeat' split
     all_goals rfl)
theorem B_begin : f_X7_begin  σA = some ((-1), σR) := by
  first
  | rfl
  | (simp only [f_X7_begin, h_in, bd_s, gd_t, isb_0, isb_1, i00, i10, if_true, if_false, ite_self, nmW]; rfl)
  | (simp only [f_X7_begin, h_in, bd_s, gd_t, isb_0, isb_1, i00, i10, if_true, if_false, ite_self, nmW]; repeat' split
     all_goals rfl)
theorem A_ticks (a : Int32) : f_X6_ticks a σ0 = some ((-1), σA) := by
  first
  | rfl
  | (simp only [f_X6_ticks_35, f_X6_ticks, h_isVenue, h_isLevel, h_within, h_granted, h_grantedAmount, h_planStands, bd_s, gd_t, isb_0, isb_1, i00, i10, if_true, if_false, ite_self, nmW]; done)
  | (simp only [f_X6_ticks_35, f_X6_ticks, h_isVenue, h_isLevel, h_within, h_granted, h_grantedAmount, h_planStands, bd_s, gd_t, isb_0, isb_1, i00, i10, if_true, if_false, ite_self, nmW]; rfl)
  | (simp only [f_X6_ticks_35, f_X6_ticks, h_isVenue, h_isLevel, h_within, h_granted, h_grantedAmount, h_planStands, bd_s, gd_t, isb_0, isb_1, i00, i10, if_true, if_false, ite_self, nmW]; repeat' split
     all_goals rfl)
theorem B_ticks (a : Int32) : f_X7_ticks a σA = some ((-1), σR) := by
  first
  | rfl
  | (simp only [f_X7_ticks_55, f_X7_ticks, h_in, bd_s, gd_t, isb_0, isb_1, i00, i10, if_true, if_false, ite_self, nmW]; rfl)
  | (simp only [f_X7_ticks_55, f_X7_ticks, h_in, bd_s, gd_t, isb_0, isb_1, i00, i10, if_true, if_false, ite_self, nmW]; repeat' split
     all_goals rfl)
theorem A_call (a : Int32) : f_X6_call a σ0 = some ((-1), σA) := by
  first
  | rfl
  | (simp only [f_X6_call_31, f_X6_call_30, f_X6_call, h_isVenue, h_isLevel, h_within, h_granted, h_grantedAmount, h_planStands, bd_s, gd_t, isb_0, isb_1, i00, i10, if_true, if_false, ite_self, nmW]; done)
  | (simp only [f_X6_call_31, f_X6_call_30, f_X6_call, h_isVenue, h_isLevel, h_within, h_granted, h_grantedAmount, h_planStands, bd_s, gd_t, isb_0, isb_1, i00, i10, if_true, if_false, ite_self, nmW]; rfl)
  | (simp only [f_X6_call_31, f_X6_call_30, f_X6_call, h_isVenue, h_isLevel, h_within, h_granted, h_grantedAmount, h_planStands, bd_s, gd_t, isb_0, isb_1, i00, i10, if_true, if_false, ite_self, nmW]; repeat' split
     all_goals rfl)
theorem B_call (a : Int32) : f_X7_call a σA = some ((-1), σR) := by
  first
  | rfl
  | (simp only [f_X7_call_68, f_X7_call_54, f_X7_call, h_in, bd_s, gd_t, isb_0, isb_1, i00, i10, if_true, if_false, ite_self, nmW]; rfl)
  | (simp only [f_X7_call_68, f_X7_call_54, f_X7_call, h_in, bd_s, gd_t, isb_0, isb_1, i00, i10, if_true, if_false, ite_self, nmW]; repeat' split
     all_goals rfl)
theorem A_keep : f_X6_keep  σ0 = some (0, σA) := by
  first
  | rfl
  | (simp only [f_X6_keep, h_isVenue, h_isLevel, h_within, h_granted, h_grantedAmount, h_planStands, bd_s, gd_t, isb_0, isb_1, i00, i10, if_true, if_false, ite_self, nmW]; done)
  | (simp only [f_X6_keep, h_isVenue, h_isLevel, h_within, h_granted, h_grantedAmount, h_planStands, bd_s, gd_t, isb_0, isb_1, i00, i10, if_true, if_false, ite_self, nmW]; rfl)
  | (simp only [f_X6_keep, h_isVenue, h_isLevel, h_within, h_granted, h_grantedAmount, h_planStands, bd_s, gd_t, isb_0, isb_1, i00, i10, if_true, if_false, ite_self, nmW]; repeat' split
     all_goals rfl)
theorem B_keep : f_X7_keep  σA = some (0, σR) := by
  first
  | rfl
  | (simp only [f_X7_keep, h_in, bd_s, gd_t, isb_0, isb_1, i00, i10, if_true, if_false, ite_self, nmW]; rfl)
  | (simp only [f_X7_keep, h_in, bd_s, gd_t, isb_0, isb_1, i00, i10, if_true, if_false, ite_self, nmW]; repeat' split
     all_goals rfl)
theorem A_back : f_X6_back  σ0 = some (0, σA) := by
  first
  | rfl
  | (simp only [f_X6_back, h_isVenue, h_isLevel, h_within, h_granted, h_grantedAmount, h_planStands, bd_s, gd_t, isb_0, isb_1, i00, i10, if_true, if_false, ite_self, nmW]; done)
  | (simp only [f_X6_back, h_isVenue, h_isLevel, h_within, h_granted, h_grantedAmount, h_planStands, bd_s, gd_t, isb_0, isb_1, i00, i10, if_true, if_false, ite_self, nmW]; rfl)
  | (simp only [f_X6_back, h_isVenue, h_isLevel, h_within, h_granted, h_grantedAmount, h_planStands, bd_s, gd_t, isb_0, isb_1, i00, i10, if_true, if_false, ite_self, nmW]; repeat' split
     all_goals rfl)
theorem B_back : f_X7_back  σA = some (0, σR) := by
  first
  | rfl
  | (simp only [f_X7_back, h_in, bd_s, gd_t, isb_0, isb_1, i00, i10, if_true, if_false, ite_self, nmW]; rfl)
  | (simp only [f_X7_back, h_in, bd_s, gd_t, isb_0, isb_1, i00, i10, if_true, if_false, ite_self, nmW]; repeat' split
     all_goals rfl)

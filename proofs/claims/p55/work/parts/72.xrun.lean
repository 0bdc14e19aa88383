/-! the class's office: commands -/
def c_f (M : Nat → Nat → Int) (c : Nat × List Int) : Int := match c.1 with
  | 0 => f_ship M
  | 1 => f_lamp M (c.2.getD 0 0)
  | 2 => f_oil M (c.2.getD 0 0)
  | 3 => f_lease M (c.2.getD 0 0) (c.2.getD 1 0) (c.2.getD 2 0)
  | 4 => f_req M (c.2.getD 0 0) (c.2.getD 1 0) (o_ps (fun i => M 9 i = c.2.getD 0 0) (M 0 6).toNat)
  | 5 => f_unl M (c.2.getD 0 0)
  | _ => f_wait (c.2.getD 0 0)
/-- a command's fault, and its place in the reference -/
theorem c_f_r (M : Nat → Nat → Int) {c : Nat × List Int} (hc : c_ok c) : (c_r M c = 0 ∧ c_f M c = 32) ∨ (c_r M c ≠ 0 ∧ c_f M c = c_let c.1 (c_r M c) ∧ c_f M c ≠ 32 ∧ 0 ≤ c_f M c ∧ c_f M c < 128) := by
  obtain ⟨s, N⟩ := c
  have h1 : s < 7 := hc.1
  rcases (by omega : s = 0 ∨ s = 1 ∨ s = 2 ∨ s = 3 ∨ s = 4 ∨ s = 5 ∨ s = 6) with rfl | rfl | rfl | rfl | rfl | rfl | rfl
  · show (r_ship M = 0 ∧ f_ship M = 32) ∨ (r_ship M ≠ 0 ∧ f_ship M = c_let 0 (r_ship M) ∧ f_ship M ≠ 32 ∧ 0 ≤ f_ship M ∧ f_ship M < 128)
    unfold r_ship f_ship
    by_cases h0 : 6 ≤ M 0 0
    · rw [if_pos h0, if_pos h0]; exact Or.inr ⟨by decide, rfl, by decide, by decide, by decide⟩
    rw [if_neg h0, if_neg h0]
    exact Or.inl ⟨rfl, rfl⟩
  · show (r_lamp M (N.getD 0 0) = 0 ∧ f_lamp M (N.getD 0 0) = 32) ∨ (r_lamp M (N.getD 0 0) ≠ 0 ∧ f_lamp M (N.getD 0 0) = c_let 1 (r_lamp M (N.getD 0 0)) ∧ f_lamp M (N.getD 0 0) ≠ 32 ∧ 0 ≤ f_lamp M (N.getD 0 0) ∧ f_lamp M (N.getD 0 0) < 128)
    unfold r_lamp f_lamp
    by_cases h0 : (N.getD 0 0) < 1 ∨ 3 < (N.getD 0 0)
    · rw [if_pos h0, if_pos h0]; exact Or.inr ⟨by decide, rfl, by decide, by decide, by decide⟩
    rw [if_neg h0, if_neg h0]
    by_cases h1 : 8 ≤ M 0 1
    · rw [if_pos h1, if_pos h1]; exact Or.inr ⟨by decide, rfl, by decide, by decide, by decide⟩
    rw [if_neg h1, if_neg h1]
    exact Or.inl ⟨rfl, rfl⟩
  · show (r_oil M (N.getD 0 0) = 0 ∧ f_oil M (N.getD 0 0) = 32) ∨ (r_oil M (N.getD 0 0) ≠ 0 ∧ f_oil M (N.getD 0 0) = c_let 2 (r_oil M (N.getD 0 0)) ∧ f_oil M (N.getD 0 0) ≠ 32 ∧ 0 ≤ f_oil M (N.getD 0 0) ∧ f_oil M (N.getD 0 0) < 128)
    unfold r_oil f_oil
    by_cases h0 : (N.getD 0 0) < 1 ∨ 200 < (N.getD 0 0)
    · rw [if_pos h0, if_pos h0]; exact Or.inr ⟨by decide, rfl, by decide, by decide, by decide⟩
    rw [if_neg h0, if_neg h0]
    by_cases h1 : 500 < M 0 2 + (N.getD 0 0)
    · rw [if_pos h1, if_pos h1]; exact Or.inr ⟨by decide, rfl, by decide, by decide, by decide⟩
    rw [if_neg h1, if_neg h1]
    exact Or.inl ⟨rfl, rfl⟩
  · show (r_lease M (N.getD 0 0) (N.getD 1 0) (N.getD 2 0) = 0 ∧ f_lease M (N.getD 0 0) (N.getD 1 0) (N.getD 2 0) = 32) ∨ (r_lease M (N.getD 0 0) (N.getD 1 0) (N.getD 2 0) ≠ 0 ∧ f_lease M (N.getD 0 0) (N.getD 1 0) (N.getD 2 0) = c_let 3 (r_lease M (N.getD 0 0) (N.getD 1 0) (N.getD 2 0)) ∧ f_lease M (N.getD 0 0) (N.getD 1 0) (N.getD 2 0) ≠ 32 ∧ 0 ≤ f_lease M (N.getD 0 0) (N.getD 1 0) (N.getD 2 0) ∧ f_lease M (N.getD 0 0) (N.getD 1 0) (N.getD 2 0) < 128)
    unfold r_lease f_lease
    by_cases h0 : ¬ (0 ≤ (N.getD 0 0) ∧ (N.getD 0 0) < M 0 0) ∨ ¬ (0 ≤ (N.getD 1 0) ∧ (N.getD 1 0) < M 0 1)
    · rw [if_pos h0, if_pos h0]; exact Or.inr ⟨by decide, rfl, by decide, by decide, by decide⟩
    rw [if_neg h0, if_neg h0]
    by_cases h1 : (N.getD 2 0) < 1 ∨ 24 < (N.getD 2 0)
    · rw [if_pos h1, if_pos h1]; exact Or.inr ⟨by decide, rfl, by decide, by decide, by decide⟩
    rw [if_neg h1, if_neg h1]
    by_cases h2 : 0 < M 5 (N.getD 1 0).toNat
    · rw [if_pos h2, if_pos h2]; exact Or.inr ⟨by decide, rfl, by decide, by decide, by decide⟩
    rw [if_neg h2, if_neg h2]
    by_cases h3 : M 4 (N.getD 1 0).toNat * (N.getD 2 0) ≤ M 1 (N.getD 0 0).toNat
    case neg => rw [if_neg h3, if_neg h3]; exact Or.inr ⟨by decide, rfl, by decide, by decide, by decide⟩
    rw [if_pos h3, if_pos h3]
    exact Or.inl ⟨rfl, rfl⟩
  · show (r_req M (N.getD 0 0) (N.getD 1 0) = 0 ∧ f_req M (N.getD 0 0) (N.getD 1 0) (o_ps (fun i => M 9 i = (N.getD 0 0)) (M 0 6).toNat) = 32) ∨ (r_req M (N.getD 0 0) (N.getD 1 0) ≠ 0 ∧ f_req M (N.getD 0 0) (N.getD 1 0) (o_ps (fun i => M 9 i = (N.getD 0 0)) (M 0 6).toNat) = c_let 4 (r_req M (N.getD 0 0) (N.getD 1 0)) ∧ f_req M (N.getD 0 0) (N.getD 1 0) (o_ps (fun i => M 9 i = (N.getD 0 0)) (M 0 6).toNat) ≠ 32 ∧ 0 ≤ f_req M (N.getD 0 0) (N.getD 1 0) (o_ps (fun i => M 9 i = (N.getD 0 0)) (M 0 6).toNat) ∧ f_req M (N.getD 0 0) (N.getD 1 0) (o_ps (fun i => M 9 i = (N.getD 0 0)) (M 0 6).toNat) < 128)
    unfold r_req f_req
    by_cases h0 : ¬ (0 ≤ (N.getD 0 0) ∧ (N.getD 0 0) < M 0 1)
    · rw [if_pos h0, if_pos h0]; exact Or.inr ⟨by decide, rfl, by decide, by decide, by decide⟩
    rw [if_neg h0, if_neg h0]
    have e : (o_ps (fun i => M 9 i = (N.getD 0 0)) (M 0 6).toNat) = m_pos M (N.getD 0 0).toNat := by unfold m_pos; rw [Int.toNat_of_nonneg (by omega)]
    rw [e]
    by_cases h1 : (N.getD 1 0) < 1 ∨ 24 < (N.getD 1 0)
    · rw [if_pos h1, if_pos h1]; exact Or.inr ⟨by decide, rfl, by decide, by decide, by decide⟩
    rw [if_neg h1, if_neg h1]
    by_cases h2 : ¬ 0 < M 5 (N.getD 0 0).toNat
    · rw [if_pos h2, if_pos h2]; exact Or.inr ⟨by decide, rfl, by decide, by decide, by decide⟩
    rw [if_neg h2, if_neg h2]
    by_cases h3 : m_pos M (N.getD 0 0).toNat = -1
    case neg => rw [if_neg h3, if_neg h3]; exact Or.inr ⟨by decide, rfl, by decide, by decide, by decide⟩
    rw [if_pos h3, if_pos h3]
    exact Or.inl ⟨rfl, rfl⟩
  · show (r_unl M (N.getD 0 0) = 0 ∧ f_unl M (N.getD 0 0) = 32) ∨ (r_unl M (N.getD 0 0) ≠ 0 ∧ f_unl M (N.getD 0 0) = c_let 5 (r_unl M (N.getD 0 0)) ∧ f_unl M (N.getD 0 0) ≠ 32 ∧ 0 ≤ f_unl M (N.getD 0 0) ∧ f_unl M (N.getD 0 0) < 128)
    unfold r_unl f_unl
    by_cases h0 : ¬ (0 ≤ (N.getD 0 0) ∧ (N.getD 0 0) < M 0 1)
    · rw [if_pos h0, if_pos h0]; exact Or.inr ⟨by decide, rfl, by decide, by decide, by decide⟩
    rw [if_neg h0, if_neg h0]
    by_cases h1 : 0 < M 5 (N.getD 0 0).toNat
    case neg => rw [if_neg h1, if_neg h1]; exact Or.inr ⟨by decide, rfl, by decide, by decide, by decide⟩
    rw [if_pos h1, if_pos h1]
    exact Or.inl ⟨rfl, rfl⟩
  · show (r_wait (N.getD 0 0) = 0 ∧ f_wait (N.getD 0 0) = 32) ∨ (r_wait (N.getD 0 0) ≠ 0 ∧ f_wait (N.getD 0 0) = c_let 6 (r_wait (N.getD 0 0)) ∧ f_wait (N.getD 0 0) ≠ 32 ∧ 0 ≤ f_wait (N.getD 0 0) ∧ f_wait (N.getD 0 0) < 128)
    unfold r_wait f_wait
    by_cases h0 : (N.getD 0 0) < 1 ∨ 48 < (N.getD 0 0)
    · rw [if_pos h0, if_pos h0]; exact Or.inr ⟨by decide, rfl, by decide, by decide, by decide⟩
    rw [if_neg h0, if_neg h0]
    exact Or.inl ⟨rfl, rfl⟩
set_option maxRecDepth 100000 in
set_option maxHeartbeats 4000000 in
/-- faultOf(command) -/
theorem ct_X11_faultOf {l : Launch} (hl : l.stackTraces = false) (d : Nat) (g : Nat → Nat → Int) (M : Nat → Nat → Int) (hst : o_st g M) (hwf : o_wf M) (b : Nat) (hC : o_CB b) (c : Nat × List Int) (hc : c_ok c) (hA : x_cA g b c) : o_Ct l yX11_faultOf wX11_faultOf (d + 4) o_no [.ref 0, .ref b] o_N (o_mem g) 0 0 (o_is (some (.int (o_I (c_f M c)))) o_N (o_mem g)) := by
  refine o_Ct.ofV hl mX11_faultOf (by decide +kernel) rfl rfl rfl (Nat.le_of_ble_eq_true rfl) ?_
  obtain ⟨hrs, hrl, hrq, hg3, hg4, hg5, hg6⟩ := id hst
  obtain ⟨⟨hws, hwl, hwq, hwo, hwle, hwrq, hwrd⟩, hwh, hwc, hwe⟩ := id hwf
  have hs0 := hrs.1
  have hl0 := hrl.1
  have hq0 := hrq.1
  have hs1 := o_rs2 hrs
  have hl1 := o_rl6 hrl
  have hq1 := o_rq12 hrq
  obtain ⟨hw1, hw2, hw3⟩ := id hws
  obtain ⟨hw4, hw5, hw6, hw7, hw8⟩ := id hwl
  obtain ⟨hw9, hw10, hw11⟩ := id hwq
  obtain ⟨s, N⟩ := c
  have hb1 := hC.2.2.1
  have hs7 : s < 7 := hc.1
  have hlen : N.length = (p_wd s).length := hc.2.1
  have hNR : ∀ i, i < N.length → 0 ≤ N.getD i 0 ∧ N.getD i 0 ≤ 999 := hc.2.2
  have hA0 : g b 0 = (s : Int) := hA.1
  have hA1 : ∀ i, i < N.length → g (b + 1) i = N.getD i 0 := hA.2
  obtain ⟨q, hq0, -⟩ := o_kwA s hs7
  refine o_gs (v := .ref 4000001) dX11_faultOf_0 (o_gT (i := 1511) (by decide +kernel) rfl) (fun Z ad s9 E => E.2.2.2.2.1.2.2.2.2.2.1) ?_
  refine o_aload_n dX11_faultOf_3 rfl ?_
  refine o_gf dX11_faultOf_4 fl_X11_327 (hC.F0 g) (show b < 192 from by omega) rfl ?_
  rw [hA0, Int.toNat_natCast]
  refine o_cO (owner := "java/lang/Enum") (x := ⟨RX6, "ordinal", "()I"⟩) RX6 (ct_Jx29ce0_ordinal_8abf5 hl d o_N (o_mem g) s hs7) dX11_faultOf_7 (by decide +kernel) (o_gT (i := 1518) (by decide +kernel) rfl) rfl (by decide) (by decide) (by omega) (o_recC (fun Z ad s9 E => (z_kw hq0 Z ad s9 E).2.1)) rfl (Nat.le_of_ble_eq_true rfl) ?_
  refine o_tiC (N := 7) (f := fun j => .int (nI (if j = 6 then 0 else j + 1))) (z := nI (if s = 6 then 0 else s + 1)) dX11_faultOf_10 (fun Z ad s9 E => E.2.2.2.2.1.2.2.2.2.2.2.1) (by omega) (by omega) (by decide) (by rw [Int.toNat_natCast]) ?_
  rcases (by omega : s = 0 ∨ s = 1 ∨ s = 2 ∨ s = 3 ∨ s = 4 ∨ s = 5 ∨ s = 6) with rfl | rfl | rfl | rfl | rfl | rfl | rfl
  · refine o_tableIn (tgt := 48) dX11_faultOf_11 (by decide) (by decide) rfl (by decide) ?_
    have hlen : N.length = 0 := hlen
    refine o_aload_n dX11_faultOf_48 rfl ?_
    refine o_gf dX11_faultOf_49 fl_X11_12 rfl (by decide) rfl ?_
    refine o_cV _ (ct_X10_faultOfNewShip hl d g M hst hwf) dX11_faultOf_52 ml_X11_68 yw_X10_faultOfNewShip rfl (by decide) (by omega) (by decide) rfl rfl rfl (Nat.le_of_ble_eq_true rfl) ?_
    have hr9 := c_f_r M hc
    have hr8 : 0 ≤ f_ship M ∧ f_ship M < 128 := by
      have e : c_f M (0, N) = f_ship M := rfl
      rw [← e]
      rcases hr9 with ⟨-, z⟩ | ⟨-, -, -, z⟩
      · rw [z]; decide
      · exact z
    refine o_ret1 dX11_faultOf_55 (by first | exact o_rcN _ (by omega) (by omega)) ?_
    exact ⟨rfl, rfl, rfl⟩
  · refine o_tableIn (tgt := 56) dX11_faultOf_11 (by decide) (by decide) rfl (by decide) ?_
    have hlen : N.length = 1 := hlen
    have v0 := hNR 0 (by omega)
    have u0 := hA1 0 (by omega)
    refine o_aload_n dX11_faultOf_56 rfl ?_
    refine o_gf dX11_faultOf_57 fl_X11_12 rfl (by decide) rfl ?_
    refine o_aload_n dX11_faultOf_60 rfl ?_
    refine o_cV _ (ct_X1_first hl d g b hC) dX11_faultOf_61 ml_X11_338 yw_X1_first rfl (by decide) (by omega) (show b < 192 from by omega) (hC.F0 g) rfl rfl (Nat.le_of_ble_eq_true rfl) ?_
    rw [u0]
    refine o_cV _ (ct_X10_faultOfNewLamp hl d g M hst hwf (N.getD 0 0) ⟨by omega, by omega⟩) dX11_faultOf_64 ml_X11_90 yw_X10_faultOfNewLamp rfl (by decide) (by omega) (by decide) rfl rfl rfl (Nat.le_of_ble_eq_true rfl) ?_
    have hr9 := c_f_r M hc
    have hr8 : 0 ≤ f_lamp M (N.getD 0 0) ∧ f_lamp M (N.getD 0 0) < 128 := by
      have e : c_f M (1, N) = f_lamp M (N.getD 0 0) := rfl
      rw [← e]
      rcases hr9 with ⟨-, z⟩ | ⟨-, -, -, z⟩
      · rw [z]; decide
      · exact z
    refine o_ret1 dX11_faultOf_67 (by first | exact o_rcN _ (by omega) (by omega)) ?_
    exact ⟨rfl, rfl, rfl⟩
  · refine o_tableIn (tgt := 68) dX11_faultOf_11 (by decide) (by decide) rfl (by decide) ?_
    have hlen : N.length = 1 := hlen
    have v0 := hNR 0 (by omega)
    have u0 := hA1 0 (by omega)
    refine o_aload_n dX11_faultOf_68 rfl ?_
    refine o_gf dX11_faultOf_69 fl_X11_12 rfl (by decide) rfl ?_
    refine o_aload_n dX11_faultOf_72 rfl ?_
    refine o_cV _ (ct_X1_first hl d g b hC) dX11_faultOf_73 ml_X11_338 yw_X1_first rfl (by decide) (by omega) (show b < 192 from by omega) (hC.F0 g) rfl rfl (Nat.le_of_ble_eq_true rfl) ?_
    rw [u0]
    refine o_cV _ (ct_X10_faultOfNewOil hl d g M hst hwf (N.getD 0 0) ⟨by omega, by omega⟩) dX11_faultOf_76 ml_X11_103 yw_X10_faultOfNewOil rfl (by decide) (by omega) (by decide) rfl rfl rfl (Nat.le_of_ble_eq_true rfl) ?_
    have hr9 := c_f_r M hc
    have hr8 : 0 ≤ f_oil M (N.getD 0 0) ∧ f_oil M (N.getD 0 0) < 128 := by
      have e : c_f M (2, N) = f_oil M (N.getD 0 0) := rfl
      rw [← e]
      rcases hr9 with ⟨-, z⟩ | ⟨-, -, -, z⟩
      · rw [z]; decide
      · exact z
    refine o_ret1 dX11_faultOf_79 (by first | exact o_rcN _ (by omega) (by omega)) ?_
    exact ⟨rfl, rfl, rfl⟩
  · refine o_tableIn (tgt := 80) dX11_faultOf_11 (by decide) (by decide) rfl (by decide) ?_
    have hlen : N.length = 3 := hlen
    have v0 := hNR 0 (by omega)
    have u0 := hA1 0 (by omega)
    have v1 := hNR 1 (by omega)
    have u1 := hA1 1 (by omega)
    have v2 := hNR 2 (by omega)
    have u2 := hA1 2 (by omega)
    refine o_aload_n dX11_faultOf_80 rfl ?_
    refine o_gf dX11_faultOf_81 fl_X11_12 rfl (by decide) rfl ?_
    refine o_aload_n dX11_faultOf_84 rfl ?_
    refine o_cV _ (ct_X1_first hl d g b hC) dX11_faultOf_85 ml_X11_338 yw_X1_first rfl (by decide) (by omega) (show b < 192 from by omega) (hC.F0 g) rfl rfl (Nat.le_of_ble_eq_true rfl) ?_
    refine o_aload_n dX11_faultOf_88 rfl ?_
    refine o_cV _ (ct_X1_second hl d g b hC) dX11_faultOf_89 ml_X11_341 yw_X1_second rfl (by decide) (by omega) (show b < 192 from by omega) (hC.F0 g) rfl rfl (Nat.le_of_ble_eq_true rfl) ?_
    refine o_aload_n dX11_faultOf_92 rfl ?_
    refine o_cV _ (ct_X1_third hl d g b hC) dX11_faultOf_93 ml_X11_344 yw_X1_third rfl (by decide) (by omega) (show b < 192 from by omega) (hC.F0 g) rfl rfl (Nat.le_of_ble_eq_true rfl) ?_
    rw [u0, u1, u2]
    refine o_cV _ (ct_X10_faultOfLease hl d g M hst hwf (N.getD 0 0) ⟨by omega, by omega⟩ (N.getD 1 0) ⟨by omega, by omega⟩ (N.getD 2 0) ⟨by omega, by omega⟩) dX11_faultOf_96 ml_X11_109 yw_X10_faultOfLease rfl (by decide) (by omega) (by decide) rfl rfl rfl (Nat.le_of_ble_eq_true rfl) ?_
    have hr9 := c_f_r M hc
    have hr8 : 0 ≤ f_lease M (N.getD 0 0) (N.getD 1 0) (N.getD 2 0) ∧ f_lease M (N.getD 0 0) (N.getD 1 0) (N.getD 2 0) < 128 := by
      have e : c_f M (3, N) = f_lease M (N.getD 0 0) (N.getD 1 0) (N.getD 2 0) := rfl
      rw [← e]
      rcases hr9 with ⟨-, z⟩ | ⟨-, -, -, z⟩
      · rw [z]; decide
      · exact z
    refine o_ret1 dX11_faultOf_99 (by first | exact o_rcN _ (by omega) (by omega)) ?_
    exact ⟨rfl, rfl, rfl⟩
  · refine o_tableIn (tgt := 100) dX11_faultOf_11 (by decide) (by decide) rfl (by decide) ?_
    have hlen : N.length = 2 := hlen
    have v0 := hNR 0 (by omega)
    have u0 := hA1 0 (by omega)
    have v1 := hNR 1 (by omega)
    have u1 := hA1 1 (by omega)
    refine o_aload_n dX11_faultOf_100 rfl ?_
    refine o_gf dX11_faultOf_101 fl_X11_12 rfl (by decide) rfl ?_
    refine o_aload_n dX11_faultOf_104 rfl ?_
    refine o_cV _ (ct_X1_first hl d g b hC) dX11_faultOf_105 ml_X11_338 yw_X1_first rfl (by decide) (by omega) (show b < 192 from by omega) (hC.F0 g) rfl rfl (Nat.le_of_ble_eq_true rfl) ?_
    refine o_aload_n dX11_faultOf_108 rfl ?_
    refine o_cV _ (ct_X1_second hl d g b hC) dX11_faultOf_109 ml_X11_341 yw_X1_second rfl (by decide) (by omega) (show b < 192 from by omega) (hC.F0 g) rfl rfl (Nat.le_of_ble_eq_true rfl) ?_
    rw [u0, u1]
    refine o_cV _ (ct_X10_faultOfRequest hl d g M hst hwf (N.getD 0 0) ⟨by omega, by omega⟩ (N.getD 1 0) ⟨by omega, by omega⟩ (o_ps (fun i => M 9 i = (N.getD 0 0)) (M 0 6).toNat) (o_ps_fst _ _)) dX11_faultOf_112 ml_X11_117 yw_X10_faultOfRequest rfl (by decide) (by omega) (by decide) rfl rfl rfl (Nat.le_of_ble_eq_true rfl) ?_
    have hr9 := c_f_r M hc
    have hr8 : 0 ≤ f_req M (N.getD 0 0) (N.getD 1 0) (o_ps (fun i => M 9 i = (N.getD 0 0)) (M 0 6).toNat) ∧ f_req M (N.getD 0 0) (N.getD 1 0) (o_ps (fun i => M 9 i = (N.getD 0 0)) (M 0 6).toNat) < 128 := by
      have e : c_f M (4, N) = f_req M (N.getD 0 0) (N.getD 1 0) (o_ps (fun i => M 9 i = (N.getD 0 0)) (M 0 6).toNat) := rfl
      rw [← e]
      rcases hr9 with ⟨-, z⟩ | ⟨-, -, -, z⟩
      · rw [z]; decide
      · exact z
    refine o_ret1 dX11_faultOf_115 (by first | exact o_rcN _ (by omega) (by omega)) ?_
    exact ⟨rfl, rfl, rfl⟩
  · refine o_tableIn (tgt := 116) dX11_faultOf_11 (by decide) (by decide) rfl (by decide) ?_
    have hlen : N.length = 1 := hlen
    have v0 := hNR 0 (by omega)
    have u0 := hA1 0 (by omega)
    refine o_aload_n dX11_faultOf_116 rfl ?_
    refine o_gf dX11_faultOf_117 fl_X11_12 rfl (by decide) rfl ?_
    refine o_aload_n dX11_faultOf_120 rfl ?_
    refine o_cV _ (ct_X1_first hl d g b hC) dX11_faultOf_121 ml_X11_338 yw_X1_first rfl (by decide) (by omega) (show b < 192 from by omega) (hC.F0 g) rfl rfl (Nat.le_of_ble_eq_true rfl) ?_
    rw [u0]
    refine o_cV _ (ct_X10_faultOfUnleased hl d g M hst hwf (N.getD 0 0) ⟨by omega, by omega⟩) dX11_faultOf_124 ml_X11_130 yw_X10_faultOfUnleased rfl (by decide) (by omega) (by decide) rfl rfl rfl (Nat.le_of_ble_eq_true rfl) ?_
    have hr9 := c_f_r M hc
    have hr8 : 0 ≤ f_unl M (N.getD 0 0) ∧ f_unl M (N.getD 0 0) < 128 := by
      have e : c_f M (5, N) = f_unl M (N.getD 0 0) := rfl
      rw [← e]
      rcases hr9 with ⟨-, z⟩ | ⟨-, -, -, z⟩
      · rw [z]; decide
      · exact z
    refine o_ret1 dX11_faultOf_127 (by first | exact o_rcN _ (by omega) (by omega)) ?_
    exact ⟨rfl, rfl, rfl⟩
  · refine o_tableOut (tgt := 128) dX11_faultOf_11 (by decide) (by decide) ?_
    have hlen : N.length = 1 := hlen
    have v0 := hNR 0 (by omega)
    have u0 := hA1 0 (by omega)
    refine o_aload_n dX11_faultOf_128 rfl ?_
    refine o_gf dX11_faultOf_129 fl_X11_12 rfl (by decide) rfl ?_
    refine o_aload_n dX11_faultOf_132 rfl ?_
    refine o_cV _ (ct_X1_first hl d g b hC) dX11_faultOf_133 ml_X11_338 yw_X1_first rfl (by decide) (by omega) (show b < 192 from by omega) (hC.F0 g) rfl rfl (Nat.le_of_ble_eq_true rfl) ?_
    rw [u0]
    refine o_cV _ (ct_X10_faultOfWait hl d g M hst hwf (N.getD 0 0) ⟨by omega, by omega⟩) dX11_faultOf_136 ml_X11_136 yw_X10_faultOfWait rfl (by decide) (by omega) (by decide) rfl rfl rfl (Nat.le_of_ble_eq_true rfl) ?_
    have hr9 := c_f_r M hc
    have hr8 : 0 ≤ f_wait (N.getD 0 0) ∧ f_wait (N.getD 0 0) < 128 := by
      have e : c_f M (6, N) = f_wait (N.getD 0 0) := rfl
      rw [← e]
      rcases hr9 with ⟨-, z⟩ | ⟨-, -, -, z⟩
      · rw [z]; decide
      · exact z
    refine o_ret1 dX11_faultOf_139 (by first | exact o_rcN _ (by omega) (by omega)) ?_
    exact ⟨rfl, rfl, rfl⟩
set_option maxRecDepth 100000 in
set_option maxHeartbeats 4000000 in
/-- carryOut(command) -/
theorem ct_X11_carryOut {l : Launch} (hl : l.stackTraces = false) (d : Nat) (g : Nat → Nat → Int) (M : Nat → Nat → Int) (hst : o_st g M) (hwf : o_wf M) (b : Nat) (hC : o_CB b) (c : Nat × List Int) (hc : c_ok c) (hA : x_cA g b c) (hr : c_r M c = 0) (hh : M 0 3 + 48 ≤ 1000000) : o_Ct l yX11_carryOut wX11_carryOut (d + 6) o_no [.ref 0, .ref b] o_N (o_mem g) 0 0 (o_mt none (fun g' => o_st g' (c_m M c) ∧ o_fr (o_cs 1) g g')) := by
  refine o_Ct.ofV hl mX11_carryOut (by decide +kernel) rfl rfl rfl (Nat.le_of_ble_eq_true rfl) ?_
  obtain ⟨hrs, hrl, hrq, hg3, hg4, hg5, hg6⟩ := id hst
  obtain ⟨⟨hws, hwl, hwq, hwo, hwle, hwrq, hwrd⟩, hwh, hwc, hwe⟩ := id hwf
  have hs0 := hrs.1
  have hl0 := hrl.1
  have hq0 := hrq.1
  have hs1 := o_rs2 hrs
  have hl1 := o_rl6 hrl
  have hq1 := o_rq12 hrq
  obtain ⟨hw1, hw2, hw3⟩ := id hws
  obtain ⟨hw4, hw5, hw6, hw7, hw8⟩ := id hwl
  obtain ⟨hw9, hw10, hw11⟩ := id hwq
  obtain ⟨s, N⟩ := c
  have hb1 := hC.2.2.1
  have hs7 : s < 7 := hc.1
  have hlen : N.length = (p_wd s).length := hc.2.1
  have hNR : ∀ i, i < N.length → 0 ≤ N.getD i 0 ∧ N.getD i 0 ≤ 999 := hc.2.2
  have hA0 : g b 0 = (s : Int) := hA.1
  have hA1 : ∀ i, i < N.length → g (b + 1) i = N.getD i 0 := hA.2
  obtain ⟨q, hq0, -⟩ := o_kwA s hs7
  refine o_gs (v := .ref 4000001) dX11_carryOut_0 (o_gT (i := 1511) (by decide +kernel) rfl) (fun Z ad s9 E => E.2.2.2.2.1.2.2.2.2.2.1) ?_
  refine o_aload_n dX11_carryOut_3 rfl ?_
  refine o_gf dX11_carryOut_4 fl_X11_327 (hC.F0 g) (show b < 192 from by omega) rfl ?_
  rw [hA0, Int.toNat_natCast]
  refine o_cO (owner := "java/lang/Enum") (x := ⟨RX6, "ordinal", "()I"⟩) RX6 (ct_Jx29ce0_ordinal_8abf5 hl d o_N (o_mem g) s hs7) dX11_carryOut_7 (by decide +kernel) (o_gT (i := 1518) (by decide +kernel) rfl) rfl (by decide) (by decide) (by omega) (o_recC (fun Z ad s9 E => (z_kw hq0 Z ad s9 E).2.1)) rfl (Nat.le_of_ble_eq_true rfl) ?_
  refine o_tiC (N := 7) (f := fun j => .int (nI (if j = 6 then 0 else j + 1))) (z := nI (if s = 6 then 0 else s + 1)) dX11_carryOut_10 (fun Z ad s9 E => E.2.2.2.2.1.2.2.2.2.2.2.1) (by omega) (by omega) (by decide) (by rw [Int.toNat_natCast]) ?_
  rcases (by omega : s = 0 ∨ s = 1 ∨ s = 2 ∨ s = 3 ∨ s = 4 ∨ s = 5 ∨ s = 6) with rfl | rfl | rfl | rfl | rfl | rfl | rfl
  · refine o_tableIn (tgt := 48) dX11_carryOut_11 (by decide) (by decide) rfl (by decide) ?_
    have hlen : N.length = 0 := hlen
    refine o_aload_n dX11_carryOut_48 rfl ?_
    refine o_gf dX11_carryOut_49 fl_X11_12 rfl (by decide) rfl ?_
    refine o_gf dX11_carryOut_52 fl_X11_80 rfl (by decide) rfl ?_
    have hf : M 0 0 < 6 := by
      rcases x_ship M with ⟨-, -, z⟩ | ⟨-, E, z, -⟩
      · exact z
      · exact absurd hr z
    
    refine o_cVm _ (ct_X9_append hl d g M hst hwf hf) dX11_carryOut_55 ml_X11_84 yw_X9_append rfl (by decide) (by omega) (by decide) rfl rfl rfl (Nat.le_of_ble_eq_true rfl) (fun g_55 q_55 => ?_)
    refine o_pop dX11_carryOut_58 rfl ?_
    refine o_goto (tgt := 167) dX11_carryOut_59 (by decide) ?_
    refine o_ret0 dX11_carryOut_167 trivial ?_
    exact ⟨rfl, rfl, g_55, rfl, q_55⟩
  · refine o_tableIn (tgt := 62) dX11_carryOut_11 (by decide) (by decide) rfl (by decide) ?_
    have hlen : N.length = 1 := hlen
    have v0 := hNR 0 (by omega)
    have u0 := hA1 0 (by omega)
    refine o_aload_n dX11_carryOut_62 rfl ?_
    refine o_gf dX11_carryOut_63 fl_X11_12 rfl (by decide) rfl ?_
    refine o_gf dX11_carryOut_66 fl_X11_94 rfl (by decide) rfl ?_
    refine o_aload_n dX11_carryOut_69 rfl ?_
    refine o_cV _ (ct_X1_first hl d g b hC) dX11_carryOut_70 ml_X11_338 yw_X1_first rfl (by decide) (by omega) (show b < 192 from by omega) (hC.F0 g) rfl rfl (Nat.le_of_ble_eq_true rfl) ?_
    have hf : (1 ≤ N.getD 0 0 ∧ N.getD 0 0 ≤ 3) ∧ M 0 1 < 8 := by
      rcases x_lamp M (N.getD 0 0) with ⟨-, -, z⟩ | ⟨-, E, z, -⟩
      · exact z
      · exact absurd hr z
    rw [u0]
    refine o_cVm _ (ct_X7_append hl d g M hst hwf (N.getD 0 0) ⟨by omega, by omega⟩ hf.2) dX11_carryOut_73 ml_X11_98 yw_X7_append rfl (by decide) (by omega) (by decide) rfl rfl rfl (Nat.le_of_ble_eq_true rfl) (fun g_73 q_73 => ?_)
    refine o_pop dX11_carryOut_76 rfl ?_
    refine o_goto (tgt := 167) dX11_carryOut_77 (by decide) ?_
    refine o_ret0 dX11_carryOut_167 trivial ?_
    exact ⟨rfl, rfl, g_73, rfl, q_73⟩
  · refine o_tableIn (tgt := 80) dX11_carryOut_11 (by decide) (by decide) rfl (by decide) ?_
    have hlen : N.length = 1 := hlen
    have v0 := hNR 0 (by omega)
    have u0 := hA1 0 (by omega)
    refine o_aload_n dX11_carryOut_80 rfl ?_
    refine o_gf dX11_carryOut_81 fl_X11_12 rfl (by decide) rfl ?_
    refine o_aload_n dX11_carryOut_84 rfl ?_
    refine o_cV _ (ct_X1_first hl d g b hC) dX11_carryOut_85 ml_X11_338 yw_X1_first rfl (by decide) (by omega) (show b < 192 from by omega) (hC.F0 g) rfl rfl (Nat.le_of_ble_eq_true rfl) ?_
    have hf : (1 ≤ N.getD 0 0 ∧ N.getD 0 0 ≤ 200) ∧ M 0 2 + N.getD 0 0 ≤ 500 := by
      rcases x_oil M (N.getD 0 0) with ⟨-, -, z⟩ | ⟨-, E, z, -⟩
      · exact z
      · exact absurd hr z
    rw [u0]
    refine o_cVm _ (ct_X10_fillUp hl d g M hst hwf (N.getD 0 0) ⟨by omega, by omega⟩) dX11_carryOut_88 ml_X11_106 yw_X10_fillUp rfl (by decide) (by omega) (by decide) rfl rfl rfl (Nat.le_of_ble_eq_true rfl) (fun g_88 q_88 => ?_)
    refine o_pop dX11_carryOut_91 rfl ?_
    refine o_goto (tgt := 167) dX11_carryOut_92 (by decide) ?_
    refine o_ret0 dX11_carryOut_167 trivial ?_
    exact ⟨rfl, rfl, g_88, rfl, q_88⟩
  · refine o_tableIn (tgt := 95) dX11_carryOut_11 (by decide) (by decide) rfl (by decide) ?_
    have hlen : N.length = 3 := hlen
    have v0 := hNR 0 (by omega)
    have u0 := hA1 0 (by omega)
    have v1 := hNR 1 (by omega)
    have u1 := hA1 1 (by omega)
    have v2 := hNR 2 (by omega)
    have u2 := hA1 2 (by omega)
    refine o_aload_n dX11_carryOut_95 rfl ?_
    refine o_gf dX11_carryOut_96 fl_X11_12 rfl (by decide) rfl ?_
    refine o_aload_n dX11_carryOut_99 rfl ?_
    refine o_cV _ (ct_X1_first hl d g b hC) dX11_carryOut_100 ml_X11_338 yw_X1_first rfl (by decide) (by omega) (show b < 192 from by omega) (hC.F0 g) rfl rfl (Nat.le_of_ble_eq_true rfl) ?_
    refine o_aload_n dX11_carryOut_103 rfl ?_
    refine o_cV _ (ct_X1_second hl d g b hC) dX11_carryOut_104 ml_X11_341 yw_X1_second rfl (by decide) (by omega) (show b < 192 from by omega) (hC.F0 g) rfl rfl (Nat.le_of_ble_eq_true rfl) ?_
    refine o_aload_n dX11_carryOut_107 rfl ?_
    refine o_cV _ (ct_X1_third hl d g b hC) dX11_carryOut_108 ml_X11_344 yw_X1_third rfl (by decide) (by omega) (show b < 192 from by omega) (hC.F0 g) rfl rfl (Nat.le_of_ble_eq_true rfl) ?_
    have hf : (0 ≤ N.getD 0 0 ∧ N.getD 0 0 < M 0 0) ∧ (0 ≤ N.getD 1 0 ∧ N.getD 1 0 < M 0 1) ∧ (1 ≤ N.getD 2 0 ∧ N.getD 2 0 ≤ 24) := by
      rcases x_lease M (N.getD 0 0) (N.getD 1 0) (N.getD 2 0) with ⟨-, -, z⟩ | ⟨-, E, z, -⟩
      · exact z
      · exact absurd hr z
    rw [u0, u1, u2]
    rw [show N.getD 0 0 = (((N.getD 0 0).toNat : Nat) : Int) by omega, show N.getD 1 0 = (((N.getD 1 0).toNat : Nat) : Int) by omega]
    refine o_cVm _ (ct_X10_leaseOut hl d g M hst hwf (N.getD 0 0).toNat (N.getD 1 0).toNat (by omega) (by omega) (N.getD 2 0) hf.2.2) dX11_carryOut_111 ml_X11_113 yw_X10_leaseOut rfl (by decide) (by omega) (by decide) rfl rfl rfl (Nat.le_of_ble_eq_true rfl) (fun g_111 q_111 => ?_)
    refine o_pop dX11_carryOut_114 rfl ?_
    refine o_goto (tgt := 167) dX11_carryOut_115 (by decide) ?_
    refine o_ret0 dX11_carryOut_167 trivial ?_
    exact ⟨rfl, rfl, g_111, rfl, q_111⟩
  · refine o_tableIn (tgt := 118) dX11_carryOut_11 (by decide) (by decide) rfl (by decide) ?_
    have hlen : N.length = 2 := hlen
    have v0 := hNR 0 (by omega)
    have u0 := hA1 0 (by omega)
    have v1 := hNR 1 (by omega)
    have u1 := hA1 1 (by omega)
    refine o_aload_n dX11_carryOut_118 rfl ?_
    refine o_gf dX11_carryOut_119 fl_X11_12 rfl (by decide) rfl ?_
    refine o_gf dX11_carryOut_122 fl_X11_121 rfl (by decide) rfl ?_
    refine o_aload_n dX11_carryOut_125 rfl ?_
    refine o_cV _ (ct_X1_first hl d g b hC) dX11_carryOut_126 ml_X11_338 yw_X1_first rfl (by decide) (by omega) (show b < 192 from by omega) (hC.F0 g) rfl rfl (Nat.le_of_ble_eq_true rfl) ?_
    refine o_aload_n dX11_carryOut_129 rfl ?_
    refine o_cV _ (ct_X1_second hl d g b hC) dX11_carryOut_130 ml_X11_341 yw_X1_second rfl (by decide) (by omega) (show b < 192 from by omega) (hC.F0 g) rfl rfl (Nat.le_of_ble_eq_true rfl) ?_
    have hf : (0 ≤ N.getD 0 0 ∧ N.getD 0 0 < M 0 1) ∧ (1 ≤ N.getD 1 0 ∧ N.getD 1 0 ≤ 24) ∧ 0 < M 5 (N.getD 0 0).toNat ∧ m_pos M (N.getD 0 0).toNat = -1 := by
      rcases x_req M (N.getD 0 0) (N.getD 1 0) with ⟨-, -, z⟩ | ⟨-, E, z, -⟩
      · exact z
      · exact absurd hr z
    rw [u0, u1]
    refine o_cVm _ (ct_X8_append hl d g M hst hwf (N.getD 0 0) ⟨by omega, by omega⟩ (N.getD 1 0) ⟨by omega, by omega⟩ (o_qlt hwf.1 (j := (N.getD 0 0).toNat) (by omega) hf.2.2.2)) dX11_carryOut_133 ml_X11_125 yw_X8_append rfl (by decide) (by omega) (by decide) rfl rfl rfl (Nat.le_of_ble_eq_true rfl) (fun g_133 q_133 => ?_)
    refine o_pop dX11_carryOut_136 rfl ?_
    refine o_goto (tgt := 167) dX11_carryOut_137 (by decide) ?_
    refine o_ret0 dX11_carryOut_167 trivial ?_
    exact ⟨rfl, rfl, g_133, rfl, q_133⟩
  · refine o_tableIn (tgt := 140) dX11_carryOut_11 (by decide) (by decide) rfl (by decide) ?_
    have hlen : N.length = 1 := hlen
    have v0 := hNR 0 (by omega)
    have u0 := hA1 0 (by omega)
    refine o_aload_n dX11_carryOut_140 rfl ?_
    refine o_gf dX11_carryOut_141 fl_X11_12 rfl (by decide) rfl ?_
    refine o_aload_n dX11_carryOut_144 rfl ?_
    refine o_cV _ (ct_X1_first hl d g b hC) dX11_carryOut_145 ml_X11_338 yw_X1_first rfl (by decide) (by omega) (show b < 192 from by omega) (hC.F0 g) rfl rfl (Nat.le_of_ble_eq_true rfl) ?_
    have hf : (0 ≤ N.getD 0 0 ∧ N.getD 0 0 < M 0 1) ∧ 0 < M 5 (N.getD 0 0).toNat := by
      rcases x_unl M (N.getD 0 0) with ⟨-, -, z⟩ | ⟨-, E, z, -⟩
      · exact z
      · exact absurd hr z
    rw [u0]
    rw [show N.getD 0 0 = (((N.getD 0 0).toNat : Nat) : Int) by omega]
    refine o_cVm _ (ct_X10_takeBack hl d g M hst hwf.1 (N.getD 0 0).toNat (by omega)) dX11_carryOut_148 ml_X11_133 yw_X10_takeBack rfl (by decide) (by omega) (by decide) rfl rfl rfl (Nat.le_of_ble_eq_true rfl) (fun g_148 q_148 => ?_)
    refine o_pop dX11_carryOut_151 rfl ?_
    refine o_goto (tgt := 167) dX11_carryOut_152 (by decide) ?_
    refine o_ret0 dX11_carryOut_167 trivial ?_
    exact ⟨rfl, rfl, g_148, rfl, q_148⟩
  · refine o_tableOut (tgt := 155) dX11_carryOut_11 (by decide) (by decide) ?_
    have hlen : N.length = 1 := hlen
    have v0 := hNR 0 (by omega)
    have u0 := hA1 0 (by omega)
    refine o_aload_n dX11_carryOut_155 rfl ?_
    refine o_gf dX11_carryOut_156 fl_X11_12 rfl (by decide) rfl ?_
    refine o_aload_n dX11_carryOut_159 rfl ?_
    refine o_cV _ (ct_X1_first hl d g b hC) dX11_carryOut_160 ml_X11_338 yw_X1_first rfl (by decide) (by omega) (show b < 192 from by omega) (hC.F0 g) rfl rfl (Nat.le_of_ble_eq_true rfl) ?_
    have hf : 1 ≤ N.getD 0 0 ∧ N.getD 0 0 ≤ 48 := by
      rcases x_wait (N.getD 0 0) with ⟨-, -, z⟩ | ⟨-, E, z, -⟩
      · exact z
      · exact absurd hr z
    rw [u0]
    refine o_cVm _ (ct_X10_letPass hl d g M hst hwf (N.getD 0 0) (by omega) (by omega)) dX11_carryOut_163 ml_X11_139 yw_X10_letPass rfl (by decide) (by omega) (by decide) rfl rfl rfl (Nat.le_of_ble_eq_true rfl) (fun g_163 q_163 => ?_)
    refine o_pop dX11_carryOut_166 rfl ?_
    refine o_ret0 dX11_carryOut_167 trivial ?_
    exact ⟨rfl, rfl, g_163, rfl, q_163⟩
set_option maxRecDepth 100000 in
set_option maxHeartbeats 4000000 in
/-- runCommands() -/
theorem ct_X11_runCommands {l : Launch} (hl : l.stackTraces = false) (d : Nat) (g M : Nat → Nat → Int) (P : List (Nat → Nat → Int)) (S : Option (Nat → Nat → Int)) (T : Nat → Nat → Int) (hxd : o_xd g M P S T) (hwf : o_wf M) (htk : o_tk T) (hh : M 0 3 + 600 ≤ 1000000) : o_Ct l yX11_runCommands wX11_runCommands (d + 10) o_no [.ref 0] o_N (o_mem g) 1 6 (x_x ["java/lang/IllegalArgumentException", "java/lang/UnsupportedOperationException"] (x_k T M) (.int (o_I (x_v T M))) (x_M T M) (x_P T M P) (S) (x_T T M) g) := by
  refine o_Ct.ofV hl mX11_runCommands (by decide +kernel) rfl rfl rfl (Nat.le_of_ble_eq_true rfl) ?_
  have hst := hxd.1
  obtain ⟨hrs, hrl, hrq, hg3, hg4, hg5, hg6⟩ := id hst
  obtain ⟨⟨hws, hwl, hwq, hwo, hwle, hwrq, hwrd⟩, hwh, hwc, hwe⟩ := id hwf
  have hs0 := hrs.1
  have hl0 := hrl.1
  have hq0 := hrq.1
  have hs1 := o_rs2 hrs
  have hl1 := o_rl6 hrl
  have hq1 := o_rq12 hrq
  obtain ⟨hw1, hw2, hw3⟩ := id hws
  obtain ⟨hw4, hw5, hw6, hw7, hw8⟩ := id hwl
  obtain ⟨hw9, hw10, hw11⟩ := id hwq
  have hwk := hwf.1
  obtain ⟨k0, k1, k2, k3, k4, k5⟩ := htk
  have hparse : o_Ct l yX2_parse wX2_parse (d + 9) o_no [.ref 163] o_N (o_mem g) 0 0 (o_mt (some (.int (o_I (o_b ((x_r T).1 = true))))) (fun g' => x_pd g g' ∧ g' 163 4 = (x_r T).2.1 ∧ ((x_r T).1 = true → g' 163 3 = (x_r T).2.2.length ∧ ∀ j c, (x_r T).2.2[j]? = some c → x_cA g' (166 + 2 * j) c))) := ct_X2_parse hl d g (T 1) (T 0 0).toNat (by omega) (fun j hj => k2 j (by omega)) (by rw [hxd.2.2.2.1]; omega) (fun j hj => hxd.2.2.2.2.1 j (by omega))
  have hallok : (x_r T).1 = true → (∀ c ∈ (x_r T).2.2, c_ok c) ∧ (x_r T).2.2.length ≤ 12 := fun z => by
    have := p_all_ok (t := T 1) (n := (T 0 0).toNat) 12 0 (Nat.zero_le _) z
    exact ⟨this.1, by have h5 : 5 * (x_r T).2.2.length ≤ (T 0 0).toNat - 0 + 1 := this.2; omega⟩
  have keyC : ∀ (g9 : Nat → Nat → Int), o_xd g9 M P S (o_e T 0 0 0) → o_fr x_f9 g g9 → o_stb g9 15 M → (x_r T).1 = true → g9 163 3 = (x_r T).2.2.length →
    ∀ (cs : List (Nat × List Int)) (i : Nat) (B g1 : Nat → Nat → Int), o_st g1 B → o_wf B → o_fr (o_cs 1) g9 g1 → i + cs.length = (x_r T).2.2.length → (x_r T).2.2.length ≤ 12 → B 0 3 + 48 * cs.length ≤ 1000000 → (∀ j c, cs[j]? = some c → x_cA g9 (166 + 2 * (i + j)) c ∧ c_ok c) → c_bad 0 (x_r T).2.2 M = c_bad i cs B → (c_bad i cs B = none → c_fin (x_r T).2.2 M = c_fin cs B) → o_V l mX11_runCommands (d + 10) o_no (x_x ["java/lang/IllegalArgumentException", "java/lang/UnsupportedOperationException"] (x_k T M) (.int (o_I (x_v T M))) (x_M T M) (x_P T M P) (S) (x_T T M) g) 54 [(0, .ref 0), (1, .int (o_I 1)), (2, .int (o_I (i : Int)))] [] o_N (o_mem g1) 1 6 := by
    intro g9 x9 fr9 hb9 hok hcc cs
    induction cs with
    | nil =>
      intro i B g1 hs hw f1 hi h12 hh1 hcs hbad hfin
      rw [List.length_nil, Nat.add_zero] at hi
      have e1 : ∀ a, 15 ≤ a → g1 a = g9 a := fun a ha => f1 a (fun z => by have z : 1 ≤ a ∧ a < 1 + 14 := z; omega)
      have e0 : c_bad 0 (x_r T).2.2 M = none := hbad
      have xk : x_k T M = 0 := by unfold x_k; rw [if_pos hok, e0]
      have x1 := x_chg x9 ⟨hs, f1⟩
      have hc1 : g1 163 3 = (i : Int) := by rw [e1 163 (by decide), hcc, ← hi]
      refine o_iload_n dX11_runCommands_54 rfl ?_
      refine o_aload_n dX11_runCommands_55 rfl ?_
      refine o_gf dX11_runCommands_56 fl_X11_46 rfl (by decide) rfl ?_
      refine o_gf dX11_runCommands_59 fl_X11_302 rfl (by decide) rfl ?_
      refine o_icmp_ge (tgt := 136) dX11_runCommands_62 (by decide) ⟨by omega, by omega⟩ ⟨by omega, by omega⟩ (fun c_62 => ?_) (fun c_62 => ?_)
      · skip
        refine o_aload_n dX11_runCommands_136 rfl ?_
        refine o_gf dX11_runCommands_137 fl_X11_25 rfl (by decide) rfl ?_
        refine o_aload_n dX11_runCommands_140 rfl ?_
        refine o_gf dX11_runCommands_141 fl_X11_16 rfl (by decide) rfl ?_
        refine o_cVm _ (ct_X5_push hl d g1 P x1.1.2.1 M 15 o_SB_15 (by decide) (o_stb_c hb9 (fun a a1 a2 => e1 a (by omega))) hws hwl hwq) dX11_runCommands_144 ml_X11_76 yw_X5_push rfl (by decide) (by omega) (by decide) rfl rfl rfl (Nat.le_of_ble_eq_true rfl) (fun g_144 q_144 => ?_)
        have x2 := x_push x1.1 q_144
        have e2 : g_144 163 = g1 163 := q_144.2 163 (fun z => by have z : 43 ≤ 163 ∧ 163 < 157 := z; omega)
        refine o_aload_n dX11_runCommands_147 rfl ?_
        refine o_gf dX11_runCommands_148 fl_X11_46 rfl (by decide) rfl ?_
        refine o_gf dX11_runCommands_151 fl_X11_302 rfl (by decide) rfl ?_
        refine o_ret1 dX11_runCommands_154 trivial ?_
        have xT : x_T T M = o_e T 0 0 0 := by unfold x_T; rw [if_pos hok, e0]
        have xM : x_M T M = B := by unfold x_M; rw [if_pos xk]; exact hfin rfl
        have xP : x_P T M P = h_push P M := by unfold x_P; rw [if_pos xk]
        have xv : x_v T M = (i : Int) := by unfold x_v; rw [if_pos xk, ← hi]
        rw [xT, xM, xP]
        exact x_xI xk (by rw [xv, e2, hc1]) ⟨x2.1, o_fr_t fr9 (o_fr_t x1.2 x2.2)⟩
      · skip
        exfalso
        omega
    | cons c cs ih =>
      intro i B g1 hs hw f1 hi h12 hh1 hcs hbad hfin
      rw [List.length_cons] at hi hh1
      have e1 : ∀ a, 15 ≤ a → g1 a = g9 a := fun a ha => f1 a (fun z => by have z : 1 ≤ a ∧ a < 1 + 14 := z; omega)
      have x1 := x_chg x9 ⟨hs, f1⟩
      have hc1 : g1 163 3 = ((x_r T).2.2.length : Int) := by rw [e1 163 (by decide), hcc]
      have hc0 := hcs 0 c rfl
      rw [Nat.add_zero] at hc0
      have hi12 : i < 12 := by omega
      have hA1 : x_cA g1 (166 + 2 * i) c := ⟨by rw [e1 _ (by omega)]; exact hc0.1.1, fun k hk => by rw [e1 _ (by omega)]; exact hc0.1.2 k hk⟩
      have hfr := c_f_r B hc0.2
      have hcR : 0 ≤ c_f B c ∧ c_f B c < 128 := by
        rcases hfr with ⟨-, z⟩ | ⟨-, -, -, z⟩
        · rw [z]; decide
        · exact z
      have eb : c_bad i (c :: cs) B = if c_r B c = 0 then c_bad (i + 1) cs (c_m B c) else some (i, c.1, c_r B c) := rfl
      have ef : c_fin (c :: cs) B = c_fin cs (c_m B c) := rfl
      refine o_iload_n dX11_runCommands_54 rfl ?_
      refine o_aload_n dX11_runCommands_55 rfl ?_
      refine o_gf dX11_runCommands_56 fl_X11_46 rfl (by decide) rfl ?_
      refine o_gf dX11_runCommands_59 fl_X11_302 rfl (by decide) rfl ?_
      refine o_icmp_ge (tgt := 136) dX11_runCommands_62 (by decide) ⟨by omega, by omega⟩ ⟨by omega, by omega⟩ (fun c_62 => ?_) (fun c_62 => ?_)
      · skip
        exfalso
        omega
      · skip
        refine o_aload_n dX11_runCommands_65 rfl ?_
        refine o_aload_n dX11_runCommands_66 rfl ?_
        refine o_gf dX11_runCommands_67 fl_X11_46 rfl (by decide) rfl ?_
        refine o_gf dX11_runCommands_70 fl_X11_305 rfl (by decide) rfl ?_
        refine o_iload_n dX11_runCommands_73 rfl ?_
        refine o_aaldn (j := i) dX11_runCommands_74 (by decide) rfl rfl (by decide) rfl (by omega) (show some _ = some (166 + 2 * i) from congrArg some (if_pos (by omega))) ?_
        refine o_cV _ (ct_X11_faultOf hl d g1 B hs hw (166 + 2 * i) (o_CBr hi12) c hc0.2 hA1) dX11_runCommands_75 ml_X11_309 yw_X11_faultOf rfl (by decide) (by omega) (by decide) rfl rfl rfl (Nat.le_of_ble_eq_true rfl) ?_
        refine o_istore_n dX11_runCommands_78 (by decide) ?_
        refine o_iload_n dX11_runCommands_79 rfl ?_
        refine o_bipush dX11_runCommands_80 (by decide) ?_
        refine o_icmp_eq (tgt := 117) dX11_runCommands_82 (by decide) ⟨by omega, by omega⟩ ⟨by omega, by omega⟩ (fun c_82 => ?_) (fun c_82 => ?_)
        · skip
          refine o_aload_n dX11_runCommands_117 rfl ?_
          refine o_aload_n dX11_runCommands_118 rfl ?_
          refine o_gf dX11_runCommands_119 fl_X11_46 rfl (by decide) rfl ?_
          refine o_gf dX11_runCommands_122 fl_X11_305 rfl (by decide) rfl ?_
          refine o_iload_n dX11_runCommands_125 rfl ?_
          refine o_aaldn (j := i) dX11_runCommands_126 (by decide) rfl rfl (by decide) rfl (by omega) (show some _ = some (166 + 2 * i) from congrArg some (if_pos (by omega))) ?_
          have hr0 : c_r B c = 0 := by
            rcases hfr with ⟨z, -⟩ | ⟨-, -, z, -⟩
            · exact z
            · exact absurd c_82 z
          refine o_cVm _ (ct_X11_carryOut hl d g1 B hs hw (166 + 2 * i) (o_CBr hi12) c hc0.2 hA1 hr0 (by omega)) dX11_runCommands_127 ml_X11_318 yw_X11_carryOut rfl (by decide) (by omega) (by decide) rfl rfl rfl (Nat.le_of_ble_eq_true rfl) (fun g_127 q_127 => ?_)
          refine o_iinc dX11_runCommands_130 rfl (by decide) ?_
          refine o_goto (tgt := 54) dX11_runCommands_133 (by decide) ?_
          have hw2 := wf_cmd hw hr0 (by omega)
          rw [eb, if_pos hr0] at hbad
          rw [eb, if_pos hr0, ef] at hfin
          exact o_loc [(0, .ref 0), (1, .int (o_I 1)), (2, .int (o_I (((i + 1 : Nat) : Int))))] rfl (ih (i + 1) (c_m B c) g_127 q_127.1 hw2.1 (o_fr_t f1 q_127.2) (by omega) h12 (by have := hw2.2; omega) (fun j c' hj => by
            have := hcs (j + 1) c' hj
            rw [show i + (j + 1) = i + 1 + j by omega] at this
            exact this) hbad hfin)
        · skip
          refine o_aload_n dX11_runCommands_85 rfl ?_
          refine o_gf dX11_runCommands_86 fl_X11_12 rfl (by decide) rfl ?_
          refine o_aload_n dX11_runCommands_89 rfl ?_
          refine o_gf dX11_runCommands_90 fl_X11_16 rfl (by decide) rfl ?_
          refine o_cVm _ (ct_X10_copyFrom hl d g1 M 1 15 o_SB_1 o_SB_15 (by decide) (o_stb_c hb9 (fun a a1 a2 => e1 a (by omega))) hws hwl hwq) dX11_runCommands_93 ml_X11_299 yw_X10_copyFrom rfl (by decide) (by omega) (by decide) rfl rfl rfl (Nat.le_of_ble_eq_true rfl) (fun g_93 q_93 => ?_)
          have x93 := x_chg x1.1 q_93
          refine o_aload_n dX11_runCommands_96 rfl ?_
          refine o_iload_n dX11_runCommands_97 rfl ?_
          refine o_pmE dX11_runCommands_98 fp_X11_61 rfl (by decide) (Nat.le_of_ble_eq_true rfl) rfl rfl (fun _ => rfl) (by decide) (fun g_98 e_98 => ?_)
          refine o_aload_n dX11_runCommands_101 rfl ?_
          refine o_iload_n dX11_runCommands_102 rfl ?_
          refine o_pmE dX11_runCommands_103 fp_X11_64 rfl (by decide) (Nat.le_of_ble_eq_true rfl) (o_rcN _ hcR.1 (by omega)) (o_fc _ hcR.1 hcR.2) (fun _ => rfl) (by decide) (fun g_103 e_103 => ?_)
          exact o_tx (ci := 16) (text := "a command failed") (sn := 19) rfl tw_U (by decide) dX11_runCommands_106 dX11_runCommands_109 dX11_runCommands_110 dX11_runCommands_113 dX11_runCommands_116 (by decide) rfl rfl (by omega) (by omega) (by decide) (by
            have hne : c_r B c ≠ 0 := by
              rcases hfr with ⟨-, z⟩ | ⟨z, -⟩
              · exact absurd z c_82
              · exact z
            have hlet : c_f B c = c_let c.1 (c_r B c) := by
              rcases hfr with ⟨-, z⟩ | ⟨-, z, -⟩
              · exact absurd z c_82
              · exact z
            rw [eb, if_neg hne] at hbad
            have xk : x_k T M = 2 := by unfold x_k; rw [if_pos hok, hbad]
            have xk0 : x_k T M ≠ 0 := by rw [xk]; decide
            have xT : x_T T M = o_e (o_e (o_e T 0 0 0) 0 3 (i : Int)) 0 4 (c_let c.1 (c_r B c)) := by unfold x_T; rw [if_pos hok, hbad]
            have xM : x_M T M = M := by unfold x_M; rw [if_neg xk0]
            have xP : x_P T M P = P := by unfold x_P; rw [if_neg xk0]
            rw [xT, xM, xP]
            refine x_xN xk0 (by rw [xk]; rfl) ⟨⟨o_st_c x93.1.1 (fun a a1 a2 => by rw [e_103, o_e_n (by omega), e_98, o_e_n (by omega)]), o_hs_c x93.1.2.1 (fun a a1 a2 => by rw [e_103, o_e_n (by omega), e_98, o_e_n (by omega)]), x_m3_c x93.1.2.2.1 (by rw [e_103, o_e_k (by decide), e_98, o_e_k (by decide)]) (fun a a1 a2 => by rw [e_103, o_e_n (by omega), e_98, o_e_n (by omega)]), ?_⟩, fun a ha => ?_⟩
            · obtain ⟨m1, m2, ⟨L, m3, m4⟩, m5, m6, m7⟩ := x93.1.2.2.2
              have ea : ∀ a, a ≠ 0 → g_103 a = g_93 a := fun a ha => by rw [e_103, o_e_n ha, e_98, o_e_n ha]
              refine ⟨?_, ?_, ⟨L, o_sb_c m3 (ea 190 (by decide)) (ea 191 (by decide)), ?_, ?_⟩, ?_, ?_, fun _ => ?_⟩
              · rw [ea 163 (by decide), o_e_k (by decide), o_e_k (by decide)]; exact m1
              · intro j hj; rw [o_e_k (by decide), o_e_k (by decide), o_e_s] at hj; omega
              · rw [o_e_k (by decide), o_e_k (by decide)]; exact m4.1
              · rw [o_e_n (by decide), o_e_n (by decide)]; exact m4.2
              · rw [e_103, o_e_k (by decide), e_98, o_e_k (by decide), o_e_k (by decide), o_e_k (by decide)]; exact m5
              · rw [e_103, o_e_k (by decide), e_98, o_e_s, o_e_k (by decide), o_e_s]
              · rw [e_103, o_e_s, o_e_s, hlet]
            · have ha9 : ¬ a ≤ 191 := ha
              rw [e_103, o_e_n (by omega), e_98, o_e_n (by omega), x93.2 a ha, x1.2 a ha, fr9 a ha])
  refine o_aload_n dX11_runCommands_0 rfl ?_
  refine o_gf dX11_runCommands_1 fl_X11_46 rfl (by decide) rfl ?_
  refine o_cVm _ (hparse) dX11_runCommands_4 ml_X11_285 yw_X2_parse rfl (by decide) (by omega) (by decide) rfl rfl rfl (Nat.le_of_ble_eq_true rfl) (fun g_4 q_4 => ?_)
  obtain ⟨fd, hpos, hpok⟩ := q_4
  refine o_istore_n dX11_runCommands_7 (by decide) ?_
  refine o_aload_n dX11_runCommands_8 rfl ?_
  refine o_gf dX11_runCommands_9 fl_X11_46 rfl (by decide) rfl ?_
  refine o_cVm _ (ct_X2_clear hl d g_4) dX11_runCommands_12 ml_X11_288 yw_X2_clear rfl (by decide) (by omega) (by decide) rfl rfl rfl (Nat.le_of_ble_eq_true rfl) (fun g_12 q_12 => ?_)
  have e12 : ∀ a, a ≠ 163 → ¬ (166 ≤ a ∧ a ≤ 189) → g_12 a = g a := fun a h1 h2 => by rw [q_12, o_e_n h1]; exact fd.1 a h1 h2
  have x12 : o_xd g_12 M P S (o_e T 0 0 0) ∧ o_fr x_f9 g g_12 := by
    obtain ⟨m1, m2, ⟨L, m3, m4⟩, m5, m6, m7⟩ := hxd.2.2.2
    refine ⟨⟨o_st_c hst (fun a a1 a2 => e12 a (by omega) (by omega)), o_hs_c hxd.2.1 (fun a a1 a2 => e12 a (by omega) (by omega)), x_m3_c hxd.2.2.1 (by rw [e12 0 (by decide) (by decide)]) (fun a a1 a2 => e12 a (by omega) (by omega)), ?_, ?_, ⟨L, o_sb_c m3 (e12 190 (by decide) (by decide)) (e12 191 (by decide) (by decide)), ?_, ?_⟩, ?_, ?_, ?_⟩, fun a ha => ?_⟩
    · rw [q_12, o_e_s, o_e_s]
    · intro j hj; rw [o_e_s] at hj; omega
    · rw [o_e_k (by decide)]; exact m4.1
    · rw [o_e_n (by decide)]; exact m4.2
    · rw [e12 0 (by decide) (by decide), o_e_k (by decide)]; exact m5
    · rw [e12 0 (by decide) (by decide), o_e_k (by decide)]; exact m6
    · rw [e12 0 (by decide) (by decide), o_e_k (by decide), o_e_k (by decide)]; exact m7
    · have ha : ¬ a ≤ 191 := ha
      exact e12 a (by omega) (by omega)
  refine o_iload_n dX11_runCommands_15 rfl ?_
  refine o_ifb_ne (tgt := 41) dX11_runCommands_16 (by decide) (fun c_16 => ?_) (fun c_16 => ?_)
  case refine_1 =>
    refine o_aload_n dX11_runCommands_41 rfl ?_
    refine o_gf dX11_runCommands_42 fl_X11_16 rfl (by decide) rfl ?_
    refine o_aload_n dX11_runCommands_45 rfl ?_
    refine o_gf dX11_runCommands_46 fl_X11_12 rfl (by decide) rfl ?_
    refine o_cVm _ (ct_X10_copyFrom hl d g_12 M 15 1 o_SB_15 o_SB_1 (by decide) x12.1.1 hws hwl hwq) dX11_runCommands_49 ml_X11_299 yw_X10_copyFrom rfl (by decide) (by omega) (by decide) rfl rfl rfl (Nat.le_of_ble_eq_true rfl) (fun g_49 q_49 => ?_)
    have e49 : ∀ a, ¬ (15 ≤ a ∧ a < 15 + 14) → g_49 a = g_12 a := q_49.2
    refine o_iconst dX11_runCommands_52 ?_
    refine o_istore_n dX11_runCommands_53 (by decide) ?_
    have hok : (x_r T).1 = true := c_16
    obtain ⟨hlen, hcells⟩ := hpok hok
    have ha := hallok hok
    have x49 : o_xd g_49 M P S (o_e T 0 0 0) := ⟨o_st_c x12.1.1 (fun a a1 a2 => e49 a (by omega)), o_hs_c x12.1.2.1 (fun a a1 a2 => e49 a (by omega)), x_m3_c x12.1.2.2.1 (by rw [e49 0 (by omega)]) (fun a a1 a2 => e49 a (by omega)), x_m4_c x12.1.2.2.2 (fun j _ => by rw [e49 0 (by omega)]) (by rw [e49 163 (by omega)]) (e49 164 (by omega)) (e49 190 (by omega)) (e49 191 (by omega))⟩
    rw [o_b1 hok]
    exact o_loc _ rfl (keyC g_49 x49 (fun a h9 => by have h9' : ¬ a ≤ 191 := h9; rw [e49 a (by omega)]; exact x12.2 a h9) q_49.1 hok (by rw [e49 163 (by omega), q_12, o_e_k (by decide)]; exact hlen) (x_r T).2.2 0 M g_49 x49.1 hwf o_fr_r (Nat.zero_add _) ha.2 (by omega) (fun j c hj => ⟨by
      rw [Nat.zero_add]
      have hj12 : j < (x_r T).2.2.length := (List.getElem?_eq_some_iff.mp hj).1
      have q := hcells j c hj
      exact ⟨by rw [e49 _ (by omega), q_12, o_e_n (by omega)]; exact q.1, fun k hk => by rw [e49 _ (by omega), q_12, o_e_n (by omega)]; exact q.2 k hk⟩, ha.1 c (List.mem_of_getElem? hj)⟩) rfl (fun _ => rfl))
  refine o_aload_n dX11_runCommands_19 rfl ?_
  refine o_aload_n dX11_runCommands_20 rfl ?_
  refine o_gf dX11_runCommands_21 fl_X11_46 rfl (by decide) rfl ?_
  refine o_gf dX11_runCommands_24 fl_X11_291 rfl (by decide) rfl ?_
  refine o_pmE dX11_runCommands_27 fp_X11_57 rfl (by decide) (Nat.le_of_ble_eq_true rfl) rfl rfl (fun _ => rfl) (by decide) (fun g_27 e_27 => ?_)
  exact o_tx (ci := 13) (text := "the text is malformed") (sn := 18) rfl tw_A (by decide) dX11_runCommands_30 dX11_runCommands_33 dX11_runCommands_34 dX11_runCommands_37 dX11_runCommands_40 (by decide) rfl rfl (by omega) (by omega) (by decide) (by
    have hno : ¬ (x_r T).1 = true := c_16
    have xk : x_k T M = 1 := by unfold x_k; rw [if_neg hno]
    have xk0 : x_k T M ≠ 0 := by rw [xk]; decide
    have xT : x_T T M = o_e (o_e T 0 2 ((x_r T).2.1 : Int)) 0 0 0 := by unfold x_T; rw [if_neg hno]
    have xM : x_M T M = M := by unfold x_M; rw [if_neg xk0]
    have xP : x_P T M P = P := by unfold x_P; rw [if_neg xk0]
    have hp4 : g_12 163 4 = (x_r T).2.1 := by rw [q_12, o_e_k (by decide)]; exact hpos
    rw [xT, xM, xP]
    have ea : ∀ a, a ≠ 0 → g_27 a = g_12 a := fun a ha => by rw [e_27, o_e_n ha]
    obtain ⟨m1, m2, ⟨L, m3, m4⟩, m5, m6, m7⟩ := x12.1.2.2.2
    refine x_xN xk0 (by rw [xk]; rfl) ⟨⟨o_st_c x12.1.1 (fun a a1 a2 => ea a (by omega)), o_hs_c x12.1.2.1 (fun a a1 a2 => ea a (by omega)), x_m3_c x12.1.2.2.1 (by rw [e_27, o_e_k (by decide)]) (fun a a1 a2 => ea a (by omega)), ?_, ?_, ⟨L, o_sb_c m3 (ea 190 (by decide)) (ea 191 (by decide)), ?_, ?_⟩, ?_, ?_, ?_⟩, fun a ha => ?_⟩
    · rw [ea 163 (by decide), o_e_s]; rw [o_e_s] at m1; exact m1
    · intro j hj; rw [o_e_s] at hj; omega
    · rw [o_e_k (by decide), o_e_k (by decide)]; rw [o_e_k (by decide)] at m4; exact m4.1
    · exact fun j hj => m4.2 j hj
    · rw [e_27, o_e_s, o_e_k (by decide), o_e_s, hp4]
    · rw [e_27, o_e_k (by decide), o_e_k (by decide), o_e_k (by decide)]; rw [o_e_k (by decide)] at m6; exact m6
    · rw [e_27, o_e_k (by decide), o_e_k (by decide), o_e_k (by decide), o_e_k (by decide), o_e_k (by decide)]; rw [o_e_k (by decide), o_e_k (by decide)] at m7; exact m7
    · have ha9 : ¬ a ≤ 191 := ha
      rw [ea a (by omega)]; exact x12.2 a ha)

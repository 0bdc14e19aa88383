/-- the end of a call of the reference: the place of an exception, all its numbers -/
def r_x (k v : Int) (M' : Nat → Nat → Int) (P' : List (Nat → Nat → Int)) (S : Option (Nat → Nat → Int)) (T g : Nat → Nat → Int) : o_P := o_mt (some (.int (o_I v))) (fun g' => g' 192 7 = k ∧ o_md g' M' P' S T ∧ o_fr r_m9 g g')
theorem r_keep {g g1 M : Nat → Nat → Int} {P : List (Nat → Nat → Int)} {S : Option (Nat → Nat → Int)} {T : Nat → Nat → Int} (h : o_md g M P S T) (hw : o_wk M) (e : g1 = o_cp (o_e g 192 7 0) 193 194 0 0 81) : o_sr (g1 193) M ∧ o_sr (g1 194) M ∧ g1 192 7 = 0 ∧ o_mk g g1 := by
  subst e
  refine ⟨?_, sr_cpy h.1 hw (fun j hj => ?_), ?_, fun a ha => ?_, fun j hj => ?_⟩
  · rw [o_cp_n (by decide), o_e_n (by decide)]; exact h.1
  · unfold o_cp
    rw [if_pos ⟨rfl, by omega, by omega⟩, o_e_n (by decide)]
    congr 1
    omega
  · rw [o_cp_n (by decide), o_e_s]
  · have ha' : ¬ (192 ≤ a ∧ a ≤ 195) := ha
    rw [o_cp_n (by omega), o_e_n (by omega)]
  · rw [o_cp_n (by decide), o_e_k hj]
theorem o_mk_t {g g1 g2 : Nat → Nat → Int} (h1 : o_mk g g1) (h2 : o_mk g1 g2) : o_mk g g2 := ⟨o_fr_t h1.1 h2.1, fun j hj => (h2.2 j hj).trans (h1.2 j hj)⟩
theorem o_mk_s {g g1 : Nat → Nat → Int} (h : o_fr o_mc g g1) : o_mk g g1 := ⟨o_fr_m h (fun a ha => by have q : a = 193 := ha; omega), fun j _ => by rw [h 192 (fun q => absurd (show 192 = 193 from q) (by decide))]⟩
theorem o_mk_7 {g g1 : Nat → Nat → Int} {k : Int} (e : g1 = o_e g 192 7 k) : o_mk g g1 := by
  subst e
  exact ⟨fun a ha => o_e_n (fun q => ha (by omega)), fun j hj => o_e_k hj⟩
theorem o_mk_c {g g1 : Nat → Nat → Int} {a b sp dp m : Nat} (hb : 193 ≤ b ∧ b ≤ 195) (e : g1 = o_cp g a b sp dp m) : o_mk g g1 := by
  subst e
  exact ⟨fun x hx => o_cp_n (fun q => hx (by omega)), fun j hj => by rw [o_cp_n (by omega)]⟩
/-- a change without an exception, recorded -/
theorem r_done {g g1 g2 g3 M M' : Nat → Nat → Int} {P : List (Nat → Nat → Int)} {S : Option (Nat → Nat → Int)} {T : Nat → Nat → Int} (h : o_md g M P S T) (hk : o_mk g g1) (h7 : g1 192 7 = 0) (hs : o_sr (g2 193) M') (hf : o_fr o_mc g1 g2) (q : r_m2 g3 (h_push P M) ∧ (∀ a, a ≠ 192 → a ≠ 197 → g3 a = g2 a) ∧ ∀ j, j ≠ 6 → g3 192 j = g2 192 j) : g3 192 7 = 0 ∧ o_md g3 M' (h_push P M) S T ∧ o_fr r_m9 g g3 := by
  have k2 := o_mk_t hk (o_mk_s hf)
  have e192 : g2 192 = g1 192 := hf 192 (fun q => absurd (show 192 = 193 from q) (by decide))
  obtain ⟨q1, q2, q3⟩ := q
  refine ⟨by rw [q3 7 (by decide), e192]; exact h7, ⟨by rw [q2 193 (by decide) (by decide)]; exact hs, q1, r_m3_c h.2.2.1 (by rw [q3 4 (by decide)]; exact k2.2 4 (by decide)) (by rw [q2 196 (by decide) (by decide)]; exact k2.1 196 (by omega)), r_m4_c h.2.2.2 (fun j hj => by rw [q3 j (by omega)]; exact k2.2 j (by omega)) (by rw [q2 198 (by decide) (by decide)]; exact k2.1 198 (by omega)) (by rw [q2 199 (by decide) (by decide)]; exact k2.1 199 (by omega))⟩, fun a ha => ?_⟩
  have ha' : ¬ (192 ≤ a ∧ a ≤ 200) := ha
  rw [q2 a (by omega) (by omega)]
  exact k2.1 a (by omega)
/-- an exception: the numbers of before -/
theorem r_back {g g1 g2 g3 M : Nat → Nat → Int} {P : List (Nat → Nat → Int)} {S : Option (Nat → Nat → Int)} {T : Nat → Nat → Int} {k : Int} (h : o_md g M P S T) (hw : o_wk M) (hk : o_mk g g1) (hB : o_sr (g1 194) M) (e2 : g2 = o_e g1 192 7 k) (e3 : g3 = o_cp g2 194 193 0 0 81) : g3 192 7 = k ∧ o_md g3 M P S T ∧ o_fr r_m9 g g3 := by
  have k3 := o_mk_t hk (o_mk_t (o_mk_7 e2) (o_mk_c ⟨by decide, by decide⟩ e3))
  have t := o_md_k (M' := M) h ?_ k3
  · exact ⟨by rw [e3, o_cp_n (by decide), e2, o_e_s], t⟩
  · refine sr_cpy hB hw (fun j hj => ?_)
    rw [e3]
    unfold o_cp
    rw [if_pos ⟨rfl, by omega, by omega⟩, e2, o_e_n (by decide)]
    congr 1
    omega
theorem r_xI {k v z : Int} {M' : Nat → Nat → Int} {P' : List (Nat → Nat → Int)} {S : Option (Nat → Nat → Int)} {T g g' : Nat → Nat → Int} (e : v = z) (h : g' 192 7 = k ∧ o_md g' M' P' S T ∧ o_fr r_m9 g g') : r_x k v M' P' S T g (.inl (some (.int (o_I z)))) o_N (o_mem g') := o_mtI e h
set_option maxRecDepth 100000 in
set_option maxHeartbeats 4000000 in
/-- addShip() -/
theorem ct_X12_addShip {l : Launch} (hl : l.stackTraces = false) (d : Nat) (g M : Nat → Nat → Int) (P : List (Nat → Nat → Int)) (S : Option (Nat → Nat → Int)) (T : Nat → Nat → Int) (hmd : o_md g M P S T) (hwf : o_wf M) : o_Ct l yX12_addShip wX12_addShip (d + 8) o_no [.ref 192] o_N (o_mem g) 0 0 (r_x (r_ship M) (if (r_ship M) = 0 then M 0 0 else 0) (if (r_ship M) = 0 then m_ship M else M) (if (r_ship M) = 0 then h_push P M else P) S T g) := by
  refine o_Ct.ofV hl mX12_addShip (by decide +kernel) rfl rfl rfl (Nat.le_of_ble_eq_true rfl) ?_
  refine o_aload_n dX12_addShip_0 rfl ?_
  refine o_cVm _ (ct_X12_keep hl (d + 6) g) dX12_addShip_1 ml_X12_73 yw_X12_keep rfl (by decide) (by omega) (by decide) rfl rfl rfl (Nat.le_of_ble_eq_true rfl) (fun g_1 q_1 => ?_)
  have k1 := r_keep hmd hwf.1 q_1
  refine o_aload_n dX12_addShip_4 rfl ?_
  refine o_aload_n dX12_addShip_5 rfl ?_
  refine o_cVm _ (ct_X12_doAddShip hl d g_1 M k1.1 hwf.1 ) dX12_addShip_6 ml_X12_76 yw_X12_doAddShip rfl (by decide) (by omega) (by decide) rfl rfl rfl (Nat.le_of_ble_eq_true rfl) (fun g_6 q_6 => ?_)
  have hkR : 0 ≤ (r_ship M) ∧ (r_ship M) ≤ 4 := by unfold r_ship; (repeat' split) <;> omega
  by_cases hk : (r_ship M) = 0
  · skip
    refine o_cVm _ (ct_X12_endsY hl (d + 6) g_6 M P _ (by rw [(q_6.1 hk).2 192 (fun q => absurd (show 192 = 193 from q) (by decide))]; exact k1.2.2.1) (r_m2_c hmd.2.1 ((o_mk_t k1.2.2.2 (o_mk_s (q_6.1 hk).2)).2 6 (by decide)) ((o_mk_t k1.2.2.2 (o_mk_s (q_6.1 hk).2)).1 197 (by omega))) hwf.1 (by rw [(q_6.1 hk).2 194 (fun q => absurd (show 194 = 193 from q) (by decide))]; exact k1.2.1)) dX12_addShip_9 ml_X12_80 yw_X12_ends rfl (by decide) (by omega) (by decide) rfl rfl rfl (Nat.le_of_ble_eq_true rfl) (fun g_9 q_9 => ?_)
    refine o_ret1 dX12_addShip_12 trivial ?_
    rw [if_pos hk, if_pos hk]
    exact r_xI rfl (by have t := r_done hmd k1.2.2.2 k1.2.2.1 (q_6.1 hk).1 (q_6.1 hk).2 q_9; rw [hk]; exact t)
  · skip
    refine o_cVm _ (ct_X12_endsF hl (d + 6) g_6 _ (by rw [q_6.2 hk, o_e_s]; omega) (by rw [q_6.2 hk, o_e_s]; exact ⟨by omega, by omega⟩)) dX12_addShip_9 ml_X12_80 yw_X12_ends rfl (by decide) (by omega) (by decide) rfl rfl rfl (Nat.le_of_ble_eq_true rfl) (fun g_9 q_9 => ?_)
    refine o_ret1 dX12_addShip_12 trivial ?_
    rw [if_neg hk, if_neg hk, if_neg hk]
    exact r_xI rfl (r_back hmd hwf.1 k1.2.2.2 k1.2.1 (q_6.2 hk) q_9)
set_option maxRecDepth 100000 in
set_option maxHeartbeats 4000000 in
/-- addLamp(v) -/
theorem ct_X12_addLamp {l : Launch} (hl : l.stackTraces = false) (d : Nat) (g M : Nat → Nat → Int) (P : List (Nat → Nat → Int)) (S : Option (Nat → Nat → Int)) (T : Nat → Nat → Int) (hmd : o_md g M P S T) (hwf : o_wf M) (v : Int) (hv : o_R v) : o_Ct l yX12_addLamp wX12_addLamp (d + 8) o_no [.ref 192, .int (o_I v)] o_N (o_mem g) 0 0 (r_x (r_lamp M v) (if (r_lamp M v) = 0 then M 0 1 else 0) (if (r_lamp M v) = 0 then m_lamp M v else M) (if (r_lamp M v) = 0 then h_push P M else P) S T g) := by
  refine o_Ct.ofV hl mX12_addLamp (by decide +kernel) rfl rfl rfl (Nat.le_of_ble_eq_true rfl) ?_
  refine o_aload_n dX12_addLamp_0 rfl ?_
  refine o_cVm _ (ct_X12_keep hl (d + 6) g) dX12_addLamp_1 ml_X12_73 yw_X12_keep rfl (by decide) (by omega) (by decide) rfl rfl rfl (Nat.le_of_ble_eq_true rfl) (fun g_1 q_1 => ?_)
  have k1 := r_keep hmd hwf.1 q_1
  refine o_aload_n dX12_addLamp_4 rfl ?_
  refine o_aload_n dX12_addLamp_5 rfl ?_
  refine o_iload_n dX12_addLamp_6 rfl ?_
  refine o_cVm _ (ct_X12_doAddLamp hl d g_1 M k1.1 hwf.1 v hv) dX12_addLamp_7 ml_X12_83 yw_X12_doAddLamp rfl (by decide) (by omega) (by decide) rfl rfl rfl (Nat.le_of_ble_eq_true rfl) (fun g_7 q_7 => ?_)
  have hkR : 0 ≤ (r_lamp M v) ∧ (r_lamp M v) ≤ 4 := by unfold r_lamp; (repeat' split) <;> omega
  by_cases hk : (r_lamp M v) = 0
  · skip
    refine o_cVm _ (ct_X12_endsY hl (d + 6) g_7 M P _ (by rw [(q_7.1 hk).2 192 (fun q => absurd (show 192 = 193 from q) (by decide))]; exact k1.2.2.1) (r_m2_c hmd.2.1 ((o_mk_t k1.2.2.2 (o_mk_s (q_7.1 hk).2)).2 6 (by decide)) ((o_mk_t k1.2.2.2 (o_mk_s (q_7.1 hk).2)).1 197 (by omega))) hwf.1 (by rw [(q_7.1 hk).2 194 (fun q => absurd (show 194 = 193 from q) (by decide))]; exact k1.2.1)) dX12_addLamp_10 ml_X12_80 yw_X12_ends rfl (by decide) (by omega) (by decide) rfl rfl rfl (Nat.le_of_ble_eq_true rfl) (fun g_10 q_10 => ?_)
    refine o_ret1 dX12_addLamp_13 trivial ?_
    rw [if_pos hk, if_pos hk]
    exact r_xI rfl (by have t := r_done hmd k1.2.2.2 k1.2.2.1 (q_7.1 hk).1 (q_7.1 hk).2 q_10; rw [hk]; exact t)
  · skip
    refine o_cVm _ (ct_X12_endsF hl (d + 6) g_7 _ (by rw [q_7.2 hk, o_e_s]; omega) (by rw [q_7.2 hk, o_e_s]; exact ⟨by omega, by omega⟩)) dX12_addLamp_10 ml_X12_80 yw_X12_ends rfl (by decide) (by omega) (by decide) rfl rfl rfl (Nat.le_of_ble_eq_true rfl) (fun g_10 q_10 => ?_)
    refine o_ret1 dX12_addLamp_13 trivial ?_
    rw [if_neg hk, if_neg hk, if_neg hk]
    exact r_xI rfl (r_back hmd hwf.1 k1.2.2.2 k1.2.1 (q_7.2 hk) q_10)
set_option maxRecDepth 100000 in
set_option maxHeartbeats 4000000 in
/-- addOil(u) -/
theorem ct_X12_addOil {l : Launch} (hl : l.stackTraces = false) (d : Nat) (g M : Nat → Nat → Int) (P : List (Nat → Nat → Int)) (S : Option (Nat → Nat → Int)) (T : Nat → Nat → Int) (hmd : o_md g M P S T) (hwf : o_wf M) (u : Int) (hu : o_R u) : o_Ct l yX12_addOil wX12_addOil (d + 8) o_no [.ref 192, .int (o_I u)] o_N (o_mem g) 0 0 (r_x (r_oil M u) (if (r_oil M u) = 0 then M 0 2 + u else 0) (if (r_oil M u) = 0 then m_oil M u else M) (if (r_oil M u) = 0 then h_push P M else P) S T g) := by
  refine o_Ct.ofV hl mX12_addOil (by decide +kernel) rfl rfl rfl (Nat.le_of_ble_eq_true rfl) ?_
  refine o_aload_n dX12_addOil_0 rfl ?_
  refine o_cVm _ (ct_X12_keep hl (d + 6) g) dX12_addOil_1 ml_X12_73 yw_X12_keep rfl (by decide) (by omega) (by decide) rfl rfl rfl (Nat.le_of_ble_eq_true rfl) (fun g_1 q_1 => ?_)
  have k1 := r_keep hmd hwf.1 q_1
  refine o_aload_n dX12_addOil_4 rfl ?_
  refine o_aload_n dX12_addOil_5 rfl ?_
  refine o_iload_n dX12_addOil_6 rfl ?_
  refine o_cVm _ (ct_X12_doAddOil hl d g_1 M k1.1 hwf.1 u hu) dX12_addOil_7 ml_X12_86 yw_X12_doAddOil rfl (by decide) (by omega) (by decide) rfl rfl rfl (Nat.le_of_ble_eq_true rfl) (fun g_7 q_7 => ?_)
  have hkR : 0 ≤ (r_oil M u) ∧ (r_oil M u) ≤ 4 := by unfold r_oil; (repeat' split) <;> omega
  by_cases hk : (r_oil M u) = 0
  · skip
    refine o_cVm _ (ct_X12_endsY hl (d + 6) g_7 M P _ (by rw [(q_7.1 hk).2 192 (fun q => absurd (show 192 = 193 from q) (by decide))]; exact k1.2.2.1) (r_m2_c hmd.2.1 ((o_mk_t k1.2.2.2 (o_mk_s (q_7.1 hk).2)).2 6 (by decide)) ((o_mk_t k1.2.2.2 (o_mk_s (q_7.1 hk).2)).1 197 (by omega))) hwf.1 (by rw [(q_7.1 hk).2 194 (fun q => absurd (show 194 = 193 from q) (by decide))]; exact k1.2.1)) dX12_addOil_10 ml_X12_80 yw_X12_ends rfl (by decide) (by omega) (by decide) rfl rfl rfl (Nat.le_of_ble_eq_true rfl) (fun g_10 q_10 => ?_)
    refine o_ret1 dX12_addOil_13 trivial ?_
    rw [if_pos hk, if_pos hk]
    exact r_xI rfl (by have t := r_done hmd k1.2.2.2 k1.2.2.1 (q_7.1 hk).1 (q_7.1 hk).2 q_10; rw [hk]; exact t)
  · skip
    refine o_cVm _ (ct_X12_endsF hl (d + 6) g_7 _ (by rw [q_7.2 hk, o_e_s]; omega) (by rw [q_7.2 hk, o_e_s]; exact ⟨by omega, by omega⟩)) dX12_addOil_10 ml_X12_80 yw_X12_ends rfl (by decide) (by omega) (by decide) rfl rfl rfl (Nat.le_of_ble_eq_true rfl) (fun g_10 q_10 => ?_)
    refine o_ret1 dX12_addOil_13 trivial ?_
    rw [if_neg hk, if_neg hk, if_neg hk]
    exact r_xI rfl (r_back hmd hwf.1 k1.2.2.2 k1.2.1 (q_7.2 hk) q_10)
set_option maxRecDepth 100000 in
set_option maxHeartbeats 4000000 in
/-- lease(s, x, t) -/
theorem ct_X12_lease {l : Launch} (hl : l.stackTraces = false) (d : Nat) (g M : Nat → Nat → Int) (P : List (Nat → Nat → Int)) (S : Option (Nat → Nat → Int)) (T : Nat → Nat → Int) (hmd : o_md g M P S T) (hwf : o_wf M) (s : Int) (hs : o_R s) (x : Int) (hx : o_R x) (t : Int) (ht : o_R t) : o_Ct l yX12_lease wX12_lease (d + 8) o_no [.ref 192, .int (o_I s), .int (o_I x), .int (o_I t)] o_N (o_mem g) 0 0 (r_x (r_lease M s x t) (if (r_lease M s x t) = 0 then M 0 3 + t else 0) (if (r_lease M s x t) = 0 then m_lease M s.toNat x.toNat t else M) (if (r_lease M s x t) = 0 then h_push P M else P) S T g) := by
  refine o_Ct.ofV hl mX12_lease (by decide +kernel) rfl rfl rfl (Nat.le_of_ble_eq_true rfl) ?_
  refine o_aload_n dX12_lease_0 rfl ?_
  refine o_cVm _ (ct_X12_keep hl (d + 6) g) dX12_lease_1 ml_X12_73 yw_X12_keep rfl (by decide) (by omega) (by decide) rfl rfl rfl (Nat.le_of_ble_eq_true rfl) (fun g_1 q_1 => ?_)
  have k1 := r_keep hmd hwf.1 q_1
  refine o_aload_n dX12_lease_4 rfl ?_
  refine o_aload_n dX12_lease_5 rfl ?_
  refine o_iload_n dX12_lease_6 rfl ?_
  refine o_iload_n dX12_lease_7 rfl ?_
  refine o_iload_n dX12_lease_8 rfl ?_
  refine o_cVm _ (ct_X12_doLease hl d g_1 M k1.1 hwf.1 s hs x hx t ht) dX12_lease_9 ml_X12_106 yw_X12_doLease rfl (by decide) (by omega) (by decide) rfl rfl rfl (Nat.le_of_ble_eq_true rfl) (fun g_9 q_9 => ?_)
  have hkR : 0 ≤ (r_lease M s x t) ∧ (r_lease M s x t) ≤ 4 := by unfold r_lease; (repeat' split) <;> omega
  by_cases hk : (r_lease M s x t) = 0
  · skip
    refine o_cVm _ (ct_X12_endsY hl (d + 6) g_9 M P _ (by rw [(q_9.1 hk).2 192 (fun q => absurd (show 192 = 193 from q) (by decide))]; exact k1.2.2.1) (r_m2_c hmd.2.1 ((o_mk_t k1.2.2.2 (o_mk_s (q_9.1 hk).2)).2 6 (by decide)) ((o_mk_t k1.2.2.2 (o_mk_s (q_9.1 hk).2)).1 197 (by omega))) hwf.1 (by rw [(q_9.1 hk).2 194 (fun q => absurd (show 194 = 193 from q) (by decide))]; exact k1.2.1)) dX12_lease_12 ml_X12_80 yw_X12_ends rfl (by decide) (by omega) (by decide) rfl rfl rfl (Nat.le_of_ble_eq_true rfl) (fun g_12 q_12 => ?_)
    refine o_ret1 dX12_lease_15 trivial ?_
    rw [if_pos hk, if_pos hk]
    exact r_xI rfl (by have t := r_done hmd k1.2.2.2 k1.2.2.1 (q_9.1 hk).1 (q_9.1 hk).2 q_12; rw [hk]; exact t)
  · skip
    refine o_cVm _ (ct_X12_endsF hl (d + 6) g_9 _ (by rw [q_9.2 hk, o_e_s]; omega) (by rw [q_9.2 hk, o_e_s]; exact ⟨by omega, by omega⟩)) dX12_lease_12 ml_X12_80 yw_X12_ends rfl (by decide) (by omega) (by decide) rfl rfl rfl (Nat.le_of_ble_eq_true rfl) (fun g_12 q_12 => ?_)
    refine o_ret1 dX12_lease_15 trivial ?_
    rw [if_neg hk, if_neg hk, if_neg hk]
    exact r_xI rfl (r_back hmd hwf.1 k1.2.2.2 k1.2.1 (q_9.2 hk) q_12)
set_option maxRecDepth 100000 in
set_option maxHeartbeats 4000000 in
/-- requestRenewal(x, t) -/
theorem ct_X12_requestRenewal {l : Launch} (hl : l.stackTraces = false) (d : Nat) (g M : Nat → Nat → Int) (P : List (Nat → Nat → Int)) (S : Option (Nat → Nat → Int)) (T : Nat → Nat → Int) (hmd : o_md g M P S T) (hwf : o_wf M) (x : Int) (hx : o_R x) (t : Int) (ht : o_R t) : o_Ct l yX12_requestRenewal wX12_requestRenewal (d + 8) o_no [.ref 192, .int (o_I x), .int (o_I t)] o_N (o_mem g) 0 0 (r_x (r_req M x t) (if (r_req M x t) = 0 then M 0 6 else 0) (if (r_req M x t) = 0 then m_req M x t else M) (if (r_req M x t) = 0 then h_push P M else P) S T g) := by
  refine o_Ct.ofV hl mX12_requestRenewal (by decide +kernel) rfl rfl rfl (Nat.le_of_ble_eq_true rfl) ?_
  refine o_aload_n dX12_requestRenewal_0 rfl ?_
  refine o_cVm _ (ct_X12_keep hl (d + 6) g) dX12_requestRenewal_1 ml_X12_73 yw_X12_keep rfl (by decide) (by omega) (by decide) rfl rfl rfl (Nat.le_of_ble_eq_true rfl) (fun g_1 q_1 => ?_)
  have k1 := r_keep hmd hwf.1 q_1
  refine o_aload_n dX12_requestRenewal_4 rfl ?_
  refine o_aload_n dX12_requestRenewal_5 rfl ?_
  refine o_iload_n dX12_requestRenewal_6 rfl ?_
  refine o_iload_n dX12_requestRenewal_7 rfl ?_
  refine o_cVm _ (ct_X12_doRequestRenewal hl d g_1 M k1.1 hwf.1 x hx t ht) dX12_requestRenewal_8 ml_X12_110 yw_X12_doRequestRenewal rfl (by decide) (by omega) (by decide) rfl rfl rfl (Nat.le_of_ble_eq_true rfl) (fun g_8 q_8 => ?_)
  have hkR : 0 ≤ (r_req M x t) ∧ (r_req M x t) ≤ 4 := by unfold r_req; (repeat' split) <;> omega
  by_cases hk : (r_req M x t) = 0
  · skip
    refine o_cVm _ (ct_X12_endsY hl (d + 6) g_8 M P _ (by rw [(q_8.1 hk).2 192 (fun q => absurd (show 192 = 193 from q) (by decide))]; exact k1.2.2.1) (r_m2_c hmd.2.1 ((o_mk_t k1.2.2.2 (o_mk_s (q_8.1 hk).2)).2 6 (by decide)) ((o_mk_t k1.2.2.2 (o_mk_s (q_8.1 hk).2)).1 197 (by omega))) hwf.1 (by rw [(q_8.1 hk).2 194 (fun q => absurd (show 194 = 193 from q) (by decide))]; exact k1.2.1)) dX12_requestRenewal_11 ml_X12_80 yw_X12_ends rfl (by decide) (by omega) (by decide) rfl rfl rfl (Nat.le_of_ble_eq_true rfl) (fun g_11 q_11 => ?_)
    refine o_ret1 dX12_requestRenewal_14 trivial ?_
    rw [if_pos hk, if_pos hk]
    exact r_xI rfl (by have t := r_done hmd k1.2.2.2 k1.2.2.1 (q_8.1 hk).1 (q_8.1 hk).2 q_11; rw [hk]; exact t)
  · skip
    refine o_cVm _ (ct_X12_endsF hl (d + 6) g_8 _ (by rw [q_8.2 hk, o_e_s]; omega) (by rw [q_8.2 hk, o_e_s]; exact ⟨by omega, by omega⟩)) dX12_requestRenewal_11 ml_X12_80 yw_X12_ends rfl (by decide) (by omega) (by decide) rfl rfl rfl (Nat.le_of_ble_eq_true rfl) (fun g_11 q_11 => ?_)
    refine o_ret1 dX12_requestRenewal_14 trivial ?_
    rw [if_neg hk, if_neg hk, if_neg hk]
    exact r_xI rfl (r_back hmd hwf.1 k1.2.2.2 k1.2.1 (q_8.2 hk) q_11)
set_option maxRecDepth 100000 in
set_option maxHeartbeats 4000000 in
/-- giveUp(x) -/
theorem ct_X12_giveUp {l : Launch} (hl : l.stackTraces = false) (d : Nat) (g M : Nat → Nat → Int) (P : List (Nat → Nat → Int)) (S : Option (Nat → Nat → Int)) (T : Nat → Nat → Int) (hmd : o_md g M P S T) (hwf : o_wf M) (x : Int) (hx : o_R x) : o_Ct l yX12_giveUp wX12_giveUp (d + 8) o_no [.ref 192, .int (o_I x)] o_N (o_mem g) 0 0 (r_x (r_unl M x) (if (r_unl M x) = 0 then M 6 x.toNat - M 0 3 else 0) (if (r_unl M x) = 0 then m_free M x.toNat else M) (if (r_unl M x) = 0 then h_push P M else P) S T g) := by
  refine o_Ct.ofV hl mX12_giveUp (by decide +kernel) rfl rfl rfl (Nat.le_of_ble_eq_true rfl) ?_
  refine o_aload_n dX12_giveUp_0 rfl ?_
  refine o_cVm _ (ct_X12_keep hl (d + 6) g) dX12_giveUp_1 ml_X12_73 yw_X12_keep rfl (by decide) (by omega) (by decide) rfl rfl rfl (Nat.le_of_ble_eq_true rfl) (fun g_1 q_1 => ?_)
  have k1 := r_keep hmd hwf.1 q_1
  refine o_aload_n dX12_giveUp_4 rfl ?_
  refine o_aload_n dX12_giveUp_5 rfl ?_
  refine o_iload_n dX12_giveUp_6 rfl ?_
  refine o_cVm _ (ct_X12_doGiveUp hl d g_1 M k1.1 hwf.1 x hx) dX12_giveUp_7 ml_X12_117 yw_X12_doGiveUp rfl (by decide) (by omega) (by decide) rfl rfl rfl (Nat.le_of_ble_eq_true rfl) (fun g_7 q_7 => ?_)
  have hkR : 0 ≤ (r_unl M x) ∧ (r_unl M x) ≤ 4 := by unfold r_unl; (repeat' split) <;> omega
  by_cases hk : (r_unl M x) = 0
  · skip
    refine o_cVm _ (ct_X12_endsY hl (d + 6) g_7 M P _ (by rw [(q_7.1 hk).2 192 (fun q => absurd (show 192 = 193 from q) (by decide))]; exact k1.2.2.1) (r_m2_c hmd.2.1 ((o_mk_t k1.2.2.2 (o_mk_s (q_7.1 hk).2)).2 6 (by decide)) ((o_mk_t k1.2.2.2 (o_mk_s (q_7.1 hk).2)).1 197 (by omega))) hwf.1 (by rw [(q_7.1 hk).2 194 (fun q => absurd (show 194 = 193 from q) (by decide))]; exact k1.2.1)) dX12_giveUp_10 ml_X12_80 yw_X12_ends rfl (by decide) (by omega) (by decide) rfl rfl rfl (Nat.le_of_ble_eq_true rfl) (fun g_10 q_10 => ?_)
    refine o_ret1 dX12_giveUp_13 trivial ?_
    rw [if_pos hk, if_pos hk]
    exact r_xI rfl (by have t := r_done hmd k1.2.2.2 k1.2.2.1 (q_7.1 hk).1 (q_7.1 hk).2 q_10; rw [hk]; exact t)
  · skip
    refine o_cVm _ (ct_X12_endsF hl (d + 6) g_7 _ (by rw [q_7.2 hk, o_e_s]; omega) (by rw [q_7.2 hk, o_e_s]; exact ⟨by omega, by omega⟩)) dX12_giveUp_10 ml_X12_80 yw_X12_ends rfl (by decide) (by omega) (by decide) rfl rfl rfl (Nat.le_of_ble_eq_true rfl) (fun g_10 q_10 => ?_)
    refine o_ret1 dX12_giveUp_13 trivial ?_
    rw [if_neg hk, if_neg hk, if_neg hk]
    exact r_xI rfl (r_back hmd hwf.1 k1.2.2.2 k1.2.1 (q_7.2 hk) q_10)
set_option maxRecDepth 100000 in
set_option maxHeartbeats 4000000 in
/-- passHours(t) -/
theorem ct_X12_passHours {l : Launch} (hl : l.stackTraces = false) (d : Nat) (g M : Nat → Nat → Int) (P : List (Nat → Nat → Int)) (S : Option (Nat → Nat → Int)) (T : Nat → Nat → Int) (hmd : o_md g M P S T) (hwf : o_wf M) (t : Int) (ht : o_R t) (hh : M 0 3 + 48 ≤ 1000000) : o_Ct l yX12_passHours wX12_passHours (d + 8) o_no [.ref 192, .int (o_I t)] o_N (o_mem g) 0 0 (r_x (r_wait t) (if (r_wait t) = 0 then n_pass M t.toNat else 0) (if (r_wait t) = 0 then m_pass M t.toNat else M) (if (r_wait t) = 0 then h_push P M else P) S T g) := by
  refine o_Ct.ofV hl mX12_passHours (by decide +kernel) rfl rfl rfl (Nat.le_of_ble_eq_true rfl) ?_
  refine o_aload_n dX12_passHours_0 rfl ?_
  refine o_cVm _ (ct_X12_keep hl (d + 6) g) dX12_passHours_1 ml_X12_73 yw_X12_keep rfl (by decide) (by omega) (by decide) rfl rfl rfl (Nat.le_of_ble_eq_true rfl) (fun g_1 q_1 => ?_)
  have k1 := r_keep hmd hwf.1 q_1
  refine o_aload_n dX12_passHours_4 rfl ?_
  refine o_aload_n dX12_passHours_5 rfl ?_
  refine o_iload_n dX12_passHours_6 rfl ?_
  refine o_cVm _ (ct_X12_doPassHours hl d g_1 M k1.1 hwf t ht hh) dX12_passHours_7 ml_X12_141 yw_X12_doPassHours rfl (by decide) (by omega) (by decide) rfl rfl rfl (Nat.le_of_ble_eq_true rfl) (fun g_7 q_7 => ?_)
  have hkR : 0 ≤ (r_wait t) ∧ (r_wait t) ≤ 4 := by unfold r_wait; (repeat' split) <;> omega
  by_cases hk : (r_wait t) = 0
  · skip
    refine o_cVm _ (ct_X12_endsY hl (d + 6) g_7 M P _ (by rw [(q_7.1 hk).2 192 (fun q => absurd (show 192 = 193 from q) (by decide))]; exact k1.2.2.1) (r_m2_c hmd.2.1 ((o_mk_t k1.2.2.2 (o_mk_s (q_7.1 hk).2)).2 6 (by decide)) ((o_mk_t k1.2.2.2 (o_mk_s (q_7.1 hk).2)).1 197 (by omega))) hwf.1 (by rw [(q_7.1 hk).2 194 (fun q => absurd (show 194 = 193 from q) (by decide))]; exact k1.2.1)) dX12_passHours_10 ml_X12_80 yw_X12_ends rfl (by decide) (by omega) (by decide) rfl rfl rfl (Nat.le_of_ble_eq_true rfl) (fun g_10 q_10 => ?_)
    refine o_ret1 dX12_passHours_13 trivial ?_
    rw [if_pos hk, if_pos hk]
    exact r_xI rfl (by have t := r_done hmd k1.2.2.2 k1.2.2.1 (q_7.1 hk).1 (q_7.1 hk).2 q_10; rw [hk]; exact t)
  · skip
    refine o_cVm _ (ct_X12_endsF hl (d + 6) g_7 _ (by rw [q_7.2 hk, o_e_s]; omega) (by rw [q_7.2 hk, o_e_s]; exact ⟨by omega, by omega⟩)) dX12_passHours_10 ml_X12_80 yw_X12_ends rfl (by decide) (by omega) (by decide) rfl rfl rfl (Nat.le_of_ble_eq_true rfl) (fun g_10 q_10 => ?_)
    refine o_ret1 dX12_passHours_13 trivial ?_
    rw [if_neg hk, if_neg hk, if_neg hk]
    exact r_xI rfl (r_back hmd hwf.1 k1.2.2.2 k1.2.1 (q_7.2 hk) q_10)

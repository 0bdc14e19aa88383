/-! the reference's runCommands -/
def x_r (T : Nat → Nat → Int) : Bool × Nat × List (Nat × List Int) := p_all (T 1) (T 0 0).toNat 12 0
def x_k (T M : Nat → Nat → Int) : Int := if (x_r T).1 = true then (match c_bad 0 (x_r T).2.2 M with | none => 0 | some _ => 2) else 1
def x_v (T M : Nat → Nat → Int) : Int := if x_k T M = 0 then ((x_r T).2.2.length : Int) else 0
def x_M (T M : Nat → Nat → Int) : Nat → Nat → Int := if x_k T M = 0 then c_fin (x_r T).2.2 M else M
def x_P (T M : Nat → Nat → Int) (P : List (Nat → Nat → Int)) : List (Nat → Nat → Int) := if x_k T M = 0 then h_push P M else P
def x_T (T M : Nat → Nat → Int) : Nat → Nat → Int := if (x_r T).1 = true then (match c_bad 0 (x_r T).2.2 M with | none => o_e T 0 0 0 | some b => o_e (o_e (o_e T 0 0 0) 0 3 (b.1 : Int)) 0 4 (c_let b.2.1 b.2.2)) else o_e (o_e T 0 2 ((x_r T).2.1 : Int)) 0 0 0
/-- what the texts keep to -/
def o_tk (T : Nat → Nat → Int) : Prop := 0 ≤ T 0 0 ∧ T 0 0 ≤ 60 ∧ (∀ j : Nat, (j : Int) < T 0 0 → 0 ≤ T 1 j ∧ T 1 j < 65536) ∧ (-1 ≤ T 0 2 ∧ T 0 2 ≤ 60) ∧ (-1 ≤ T 0 3 ∧ T 0 3 ≤ 12) ∧ (0 ≤ T 0 4 ∧ T 0 4 < 65536)
theorem c_r_R {M : Nat → Nat → Int} {c : Nat × List Int} : 0 ≤ c_r M c ∧ c_r M c ≤ 4 := by
  unfold c_r r_ship r_lamp r_oil r_lease r_req r_unl r_wait
  split <;> (repeat' split) <;> omega
theorem c_bad_i : ∀ (cs : List (Nat × List Int)) (M : Nat → Nat → Int) (i : Nat) (b : Nat × Nat × Int), c_bad i cs M = some b → i ≤ b.1 ∧ b.1 < i + cs.length
  | [], _, _, _ => fun h => by cases h
  | c :: cs, M, i, b => fun h => by
    unfold c_bad at h
    rw [List.length_cons]
    by_cases q : c_r M c = 0
    · rw [if_pos q] at h
      have := c_bad_i cs _ _ _ h
      omega
    · rw [if_neg q] at h
      cases h
      exact ⟨Nat.le_refl i, by show i < _; omega⟩
/-- the letters of the reasons -/
def c_rw (s : Nat) : List Int := match s with
  | 0 => [115]
  | 1 => [97, 115]
  | 2 => [97, 115]
  | 3 => [105, 97, 115, 117]
  | 4 => [105, 97, 110, 115]
  | 5 => [105, 110]
  | _ => [97]
theorem c_rw_t (s : Nat) (hs : s < 7) : o_wt (c_rs s) (c_rw s) := by
  rcases (by omega : s = 0 ∨ s = 1 ∨ s = 2 ∨ s = 3 ∨ s = 4 ∨ s = 5 ∨ s = 6) with rfl | rfl | rfl | rfl | rfl | rfl | rfl
  · exact o_wtR0
  · exact o_wtR1
  · exact o_wtR1
  · exact o_wtR3
  · exact o_wtR4
  · exact o_wtR5
  · exact o_wtR6
theorem c_rw_l {M : Nat → Nat → Int} {c : Nat × List Int} (hc : c_ok c) (h0 : c_r M c ≠ 0) : c_r M c - 1 < (c_rw c.1).length ∧ (c_rw c.1).getD (c_r M c - 1).toNat 0 = c_let c.1 (c_r M c) ∧ 0 ≤ c_let c.1 (c_r M c) ∧ c_let c.1 (c_r M c) < 128 := by
  obtain ⟨s, N⟩ := c
  have h1 := hc.1
  have h1 : s < 7 := h1
  have hR : ∀ r : Int, c_r M (s, N) = r → (s = 0 → r = 0 ∨ r = 1) ∧ (s = 1 → r = 0 ∨ r = 1 ∨ r = 2) ∧ (s = 2 → r = 0 ∨ r = 1 ∨ r = 2) ∧ (s = 3 → r = 0 ∨ r = 1 ∨ r = 2 ∨ r = 3 ∨ r = 4) ∧ (s = 4 → r = 0 ∨ r = 1 ∨ r = 2 ∨ r = 3 ∨ r = 4) ∧ (s = 5 → r = 0 ∨ r = 1 ∨ r = 2) ∧ (s = 6 → r = 0 ∨ r = 1) := by
    intro r hr
    refine ⟨fun q => ?_, fun q => ?_, fun q => ?_, fun q => ?_, fun q => ?_, fun q => ?_, fun q => ?_⟩ <;> subst q <;> subst hr
    · show r_ship M = 0 ∨ r_ship M = 1
      unfold r_ship; split <;> simp
    · show r_lamp M (N.getD 0 0) = 0 ∨ r_lamp M (N.getD 0 0) = 1 ∨ r_lamp M (N.getD 0 0) = 2
      unfold r_lamp; repeat' split
      all_goals simp
    · show r_oil M (N.getD 0 0) = 0 ∨ r_oil M (N.getD 0 0) = 1 ∨ r_oil M (N.getD 0 0) = 2
      unfold r_oil; repeat' split
      all_goals simp
    · show r_lease M (N.getD 0 0) (N.getD 1 0) (N.getD 2 0) = 0 ∨ r_lease M (N.getD 0 0) (N.getD 1 0) (N.getD 2 0) = 1 ∨ r_lease M (N.getD 0 0) (N.getD 1 0) (N.getD 2 0) = 2 ∨ r_lease M (N.getD 0 0) (N.getD 1 0) (N.getD 2 0) = 3 ∨ r_lease M (N.getD 0 0) (N.getD 1 0) (N.getD 2 0) = 4
      unfold r_lease; repeat' split
      all_goals simp
    · show r_req M (N.getD 0 0) (N.getD 1 0) = 0 ∨ r_req M (N.getD 0 0) (N.getD 1 0) = 1 ∨ r_req M (N.getD 0 0) (N.getD 1 0) = 2 ∨ r_req M (N.getD 0 0) (N.getD 1 0) = 3 ∨ r_req M (N.getD 0 0) (N.getD 1 0) = 4
      unfold r_req; repeat' split
      all_goals simp
    · show r_unl M (N.getD 0 0) = 0 ∨ r_unl M (N.getD 0 0) = 1 ∨ r_unl M (N.getD 0 0) = 2
      unfold r_unl; repeat' split
      all_goals simp
    · show r_wait (N.getD 0 0) = 0 ∨ r_wait (N.getD 0 0) = 1
      unfold r_wait; repeat' split
      all_goals simp
  obtain ⟨r, hr⟩ : ∃ r, c_r M (s, N) = r := ⟨_, rfl⟩
  have h2 := hR r hr
  rw [hr] at h0 ⊢
  show r - 1 < ((c_rw s).length : Int) ∧ (c_rw s).getD (r - 1).toNat 0 = c_let s r ∧ 0 ≤ c_let s r ∧ c_let s r < 128
  clear hr hR
  rcases (by omega : s = 0 ∨ s = 1 ∨ s = 2 ∨ s = 3 ∨ s = 4 ∨ s = 5 ∨ s = 6) with rfl | rfl | rfl | rfl | rfl | rfl | rfl
  · rcases h2.1 rfl with q | q <;> first | exact absurd q h0 | (subst q; decide)
  · rcases h2.2.1 rfl with q | q | q <;> first | exact absurd q h0 | (subst q; decide)
  · rcases h2.2.2.1 rfl with q | q | q <;> first | exact absurd q h0 | (subst q; decide)
  · rcases h2.2.2.2.1 rfl with q | q | q | q | q <;> first | exact absurd q h0 | (subst q; decide)
  · rcases h2.2.2.2.2.1 rfl with q | q | q | q | q <;> first | exact absurd q h0 | (subst q; decide)
  · rcases h2.2.2.2.2.2.1 rfl with q | q | q <;> first | exact absurd q h0 | (subst q; decide)
  · rcases h2.2.2.2.2.2.2 rfl with q | q <;> first | exact absurd q h0 | (subst q; decide)
theorem o_cA_cg {g g' : Nat → Nat → Int} {k : Nat} {c : Nat × List Int} (h : o_cA g k c) (hl : c.2.length ≤ 3) (e : ∀ j, j < 4 * k + 4 → g' 200 j = g 200 j) : o_cA g' k c := ⟨by rw [e _ (by omega)]; exact h.1, fun i hi => by rw [e _ (by omega)]; exact h.2 i hi⟩
theorem c_ok3 {c : Nat × List Int} (h : c_ok c) : c.2.length ≤ 3 := by
  have h1 := h.1
  rw [h.2.1]
  rcases (by omega : c.1 = 0 ∨ c.1 = 1 ∨ c.1 = 2 ∨ c.1 = 3 ∨ c.1 = 4 ∨ c.1 = 5 ∨ c.1 = 6) with q | q | q | q | q | q | q <;> rw [q] <;> decide
theorem o_fc (z : Int) (h0 : 0 ≤ z) (h1 : z < 128) : fits .char (.int (o_I z)) = true := o_fin (fun z => fits .char (.int (o_I z)) = true) (by decide +kernel) z h0 h1
set_option maxRecDepth 100000 in
set_option maxHeartbeats 4000000 in
/-- runCommands() -/
theorem ct_X12_runCommands {l : Launch} (hl : l.stackTraces = false) (d : Nat) (g M : Nat → Nat → Int) (P : List (Nat → Nat → Int)) (S : Option (Nat → Nat → Int)) (T : Nat → Nat → Int) (hmd : o_md g M P S T) (hwf : o_wf M) (htk : o_tk T) (hh : M 0 3 + 600 ≤ 1000000) : o_Ct l yX12_runCommands wX12_runCommands (d + 12) o_no [.ref 192] o_N (o_mem g) 0 0 (r_x (x_k T M) (x_v T M) (x_M T M) (x_P T M P) S (x_T T M) g) := by
  refine o_Ct.ofV hl mX12_runCommands (by decide +kernel) rfl rfl rfl (Nat.le_of_ble_eq_true rfl) ?_
  obtain ⟨k0, k1, k2, k3, k4, k5⟩ := htk
  obtain ⟨n, hn⟩ : ∃ n : Nat, (n : Int) = T 0 0 := ⟨(T 0 0).toNat, by omega⟩
  obtain ⟨t, ht9⟩ : ∃ t, T 1 = t := ⟨_, rfl⟩
  have hn60 : n ≤ 60 := by omega
  have ht : ∀ j, j < n → 0 ≤ t j ∧ t j < 65536 := fun j hj => by rw [← ht9]; exact k2 j (by omega)
  have hxr : x_r T = p_all t n 12 0 := by unfold x_r; rw [ht9, show (T 0 0).toNat = n by omega]
  have hxr2 : x_r T = p_all t n 13 0 := hxr.trans (p_all_f 12 0 (Nat.zero_le _) (by omega)).symm
  have keyC : ∀ (gw gk : Nat → Nat → Int), o_md gw M P S (o_e T 0 0 0) → o_fr r_m9 g gw → (x_r T).1 = true → o_mk gw gk → gk 192 7 = 0 → o_sr (gk 194) M → gk 192 18 = (x_r T).2.2.length →
    ∀ (cs : List (Nat × List Int)) (i : Nat) (Mi g1 : Nat → Nat → Int), o_sr (g1 193) Mi → o_wf Mi → o_fr o_mc gk g1 → i + cs.length = (x_r T).2.2.length → (x_r T).2.2.length ≤ 12 → Mi 0 3 + 48 * cs.length ≤ 1000000 → (∀ j c, cs[j]? = some c → o_cA gk (i + j) c ∧ c_ok c) → c_bad 0 (x_r T).2.2 M = c_bad i cs Mi → (c_bad i cs Mi = none → c_fin (x_r T).2.2 M = c_fin cs Mi) → o_V l mX12_runCommands (d + 12) o_no (r_x (x_k T M) (x_v T M) (x_M T M) (x_P T M P) S (x_T T M) g) 126 [(0, .ref 192), (1, .int (o_I (i : Int)))] [] o_N (o_mem g1) 0 0 := by
    intro gw gk hmw hfw hok hmk h7 hB h18 cs
    induction cs with
    | nil =>
      intro i Mi g1 hs hw f1 hi h12 hh1 hcs hbad hfin
      rw [List.length_nil, Nat.add_zero] at hi
      have e192 : g1 192 = gk 192 := f1 192 (fun q => absurd (show 192 = 193 from q) (by decide))
      have g18 : g1 192 18 = (i : Int) := by rw [e192, h18, ← hi]
      have e0 : c_bad 0 (x_r T).2.2 M = none := hbad
      have xk : x_k T M = 0 := by unfold x_k; rw [if_pos hok, e0]
      have k2' := o_mk_t hmk (o_mk_s f1)
      refine o_iload_n dX12_runCommands_126 rfl ?_
      refine o_aload_n dX12_runCommands_127 rfl ?_
      refine o_gf dX12_runCommands_128 fl_X12_213 rfl (by decide) rfl ?_
      refine o_icmp_ge (tgt := 182) dX12_runCommands_131 (by decide) ⟨by omega, by omega⟩ ⟨by omega, by omega⟩ (fun c_131 => ?_) (fun c_131 => ?_)
      · skip
        refine o_aload_n dX12_runCommands_182 rfl ?_
        refine o_aload_n dX12_runCommands_183 rfl ?_
        refine o_gf dX12_runCommands_184 fl_X12_213 rfl (by decide) rfl ?_
        rw [g18]
        refine o_cVm _ (ct_X12_endsY hl (d + 10) g1 M P (i : Int) (by rw [e192]; exact h7) (r_m2_c hmw.2.1 (k2'.2 6 (by decide)) (k2'.1 197 (by omega))) hwf.1 (by rw [f1 194 (fun q => absurd (show 194 = 193 from q) (by decide))]; exact hB)) dX12_runCommands_187 ml_X12_80 yw_X12_ends rfl (by decide) (by omega) (by decide) rfl rfl rfl (Nat.le_of_ble_eq_true rfl) (fun g_187 q_187 => ?_)
        refine o_ret1 dX12_runCommands_190 trivial ?_
        have q := r_done (M' := Mi) hmw hmk h7 hs f1 q_187
        have xT : x_T T M = o_e T 0 0 0 := by unfold x_T; rw [if_pos hok, e0]
        have xM : x_M T M = Mi := by unfold x_M; rw [if_pos xk]; exact hfin rfl
        have xP : x_P T M P = h_push P M := by unfold x_P; rw [if_pos xk]
        have xv : x_v T M = (i : Int) := by unfold x_v; rw [if_pos xk, ← hi]
        rw [xk, xT, xM, xP]
        exact r_xI xv ⟨q.1, q.2.1, o_fr_t hfw q.2.2⟩
      · skip
        exfalso
        omega
    | cons c cs ih =>
      intro i Mi g1 hs hw f1 hi h12 hh1 hcs hbad hfin
      rw [List.length_cons] at hi hh1
      have e192 : g1 192 = gk 192 := f1 192 (fun q => absurd (show 192 = 193 from q) (by decide))
      have e200 : g1 200 = gk 200 := f1 200 (fun q => absurd (show 200 = 193 from q) (by decide))
      have g18 : g1 192 18 = ((x_r T).2.2.length : Int) := by rw [e192, h18]
      obtain ⟨hA, hc⟩ := hcs 0 c rfl
      rw [Nat.add_zero] at hA
      have hA1 : o_cA g1 i c := o_cA_cg hA (c_ok3 hc) (fun j _ => by rw [e200])
      have hrR := c_r_R (M := Mi) (c := c)
      have eb : c_bad i (c :: cs) Mi = if c_r Mi c = 0 then c_bad (i + 1) cs (c_m Mi c) else some (i, c.1, c_r Mi c) := rfl
      refine o_iload_n dX12_runCommands_126 rfl ?_
      refine o_aload_n dX12_runCommands_127 rfl ?_
      refine o_gf dX12_runCommands_128 fl_X12_213 rfl (by decide) rfl ?_
      rw [g18]
      refine o_icmp_ge (tgt := 182) dX12_runCommands_131 (by decide) ⟨by omega, by omega⟩ ⟨by omega, by omega⟩ (fun c_131 => ?_) (fun c_131 => ?_)
      · skip
        exfalso
        omega
      · skip
        skip
        refine o_aload_n dX12_runCommands_134 rfl ?_
        refine o_iload_n dX12_runCommands_135 rfl ?_
        refine o_cVm _ (ct_X12_does hl (d + 5) g1 Mi hs hw (by omega) i (by omega) c hc hA1) dX12_runCommands_136 ml_X12_246 yw_X12_does rfl (by decide) (by omega) (by decide) rfl rfl rfl (Nat.le_of_ble_eq_true rfl) (fun g_136 q_136 => ?_)
        refine o_astore_n dX12_runCommands_139 (by decide) ?_
        skip
        have q1 := q_136.1
        have q2 := q_136.2
        by_cases hr0 : c_r Mi c = 0
        · obtain ⟨s1, f2⟩ := q1 hr0
          have e2 : g_136 192 = gk 192 := (f2 192 (fun q => absurd (show 192 = 193 from q) (by decide))).trans e192
          have t7 : g_136 192 7 = 0 := by rw [e2]; exact h7
          rw [if_pos hr0] at eb
          have hw2 := wf_cmd hw hr0 (by omega)
          refine o_aload_n dX12_runCommands_140 rfl ?_
          refine o_gf dX12_runCommands_141 fl_X12_42 rfl (by decide) rfl ?_
          rw [t7]
          refine o_if_le (tgt := 176) dX12_runCommands_144 (by decide) ⟨by omega, by omega⟩ (fun _ => ?_) (fun c => absurd (by decide) c)
          refine o_iinc dX12_runCommands_176 rfl (by decide) ?_
          refine o_goto (tgt := 126) dX12_runCommands_179 (by decide) ?_
          exact o_loc [(0, .ref 192), (1, .int (o_I ((i + 1 : Nat) : Int)))] rfl (ih (i + 1) (c_m Mi c) g_136 s1 hw2.1 (o_fr_t f1 f2) (by omega) h12 (by omega) (fun j c' hj => by
            have := hcs (j + 1) c' hj
            rw [show i + (j + 1) = i + 1 + j by omega] at this
            exact this) (hbad.trans eb) (fun hb => by rw [hfin (eb.trans hb)]; rfl))
        · have e7 := q2 hr0
          have t7 : g_136 192 7 = c_r Mi c := by rw [e7, o_e_s]
          rw [if_neg hr0] at eb
          have e0 := hbad.trans eb
          obtain ⟨w1, w2, w3, w4⟩ := c_rw_l hc hr0
          have xk : x_k T M = 2 := by unfold x_k; rw [if_pos hok, e0]
          refine o_aload_n dX12_runCommands_140 rfl ?_
          refine o_gf dX12_runCommands_141 fl_X12_42 rfl (by decide) rfl ?_
          rw [t7]
          refine o_if_le (tgt := 176) dX12_runCommands_144 (by decide) ⟨by omega, by omega⟩ (fun c => absurd c (by omega)) (fun _ => ?_)
          refine o_aload_n dX12_runCommands_147 rfl ?_
          refine o_iload_n dX12_runCommands_148 rfl ?_
          refine o_pmE dX12_runCommands_149 fp_X12_36 rfl (by decide) (Nat.le_of_ble_eq_true rfl) rfl rfl (fun _ => rfl) (by decide) (fun g_149 e_149 => ?_)
          refine o_aload_n dX12_runCommands_152 rfl ?_
          refine o_aload_n dX12_runCommands_153 rfl ?_
          refine o_aload_n dX12_runCommands_154 rfl ?_
          refine o_gf dX12_runCommands_155 fl_X12_42 rfl (by decide) rfl ?_
          refine o_iconst dX12_runCommands_158 ?_
          skip
          refine o_isub dX12_runCommands_159 ?_
          rw [show g_149 192 7 = c_r Mi c by rw [e_149, o_e_k (by decide)]; exact t7]
          refine o_cG RJ0 _ (ct_J0_charAt_5068e hl (d + 5) o_N (o_mem g_149) (c_rs c.1) (c_rw c.1) (c_rw_t c.1 hc.1) (c_r Mi c - 1) (by omega)) dX12_runCommands_160 ml_X12_199 yw_J0_charAt_5068e rfl (by decide) (by omega) (o_recC (fun Z ad s E => (z_sv (c_rw_t c.1 hc.1) Z ad s E).1)) rfl (Nat.le_of_ble_eq_true rfl) ?_
          rw [w2]
          refine o_pmE dX12_runCommands_163 fp_X12_250 rfl (by decide) (Nat.le_of_ble_eq_true rfl) (o_rcN _ (by omega) (by omega)) (o_fc _ (by omega) (by omega)) (fun _ => rfl) (by decide) (fun g_163 e_163 => ?_)
          refine o_aload_n dX12_runCommands_166 rfl ?_
          refine o_aload_n dX12_runCommands_167 rfl ?_
          refine o_iconst dX12_runCommands_168 ?_
          refine o_cVm _ (ct_X12_fails hl (d + 10) g_163 2) dX12_runCommands_169 ml_X12_70 yw_X12_fails rfl (by decide) (by omega) (by decide) rfl rfl rfl (Nat.le_of_ble_eq_true rfl) (fun g_169 q_169 => ?_)
          refine o_cVm _ (ct_X12_endsF hl (d + 10) g_169 0 (by rw [q_169, o_e_s]; decide) (by rw [q_169, o_e_s]; exact ⟨by decide, by decide⟩)) dX12_runCommands_172 ml_X12_80 yw_X12_ends rfl (by decide) (by omega) (by decide) rfl rfl rfl (Nat.le_of_ble_eq_true rfl) (fun g_172 q_172 => ?_)
          refine o_ret1 dX12_runCommands_175 trivial ?_
          have xT : x_T T M = o_e (o_e (o_e T 0 0 0) 0 3 (i : Int)) 0 4 (c_let c.1 (c_r Mi c)) := by unfold x_T; rw [if_pos hok, e0]
          have xM : x_M T M = M := by unfold x_M; rw [if_neg (by rw [xk]; decide)]
          have xP : x_P T M P = P := by unfold x_P; rw [if_neg (by rw [xk]; decide)]
          have xv : x_v T M = 0 := by unfold x_v; rw [if_neg (by rw [xk]; decide)]
          rw [xk, xT, xM, xP]
          have j1 : ∀ a, ¬ (192 ≤ a ∧ a ≤ 195) → g_172 a = gw a := fun a ha => by
            rw [q_172, o_cp_n (by omega), q_169, o_e_n (by omega), e_163, o_e_n (by omega), e_149, o_e_n (by omega), e7, o_e_n (by omega), f1 a (fun q => by have q : a = 193 := q; omega)]
            exact hmk.1 a ha
          have j2 : ∀ j, j ≠ 7 → j ≠ 15 → j ≠ 16 → g_172 192 j = gw 192 j := fun j a b c => by
            rw [q_172, o_cp_n (by decide), q_169, o_e_k a, e_163, o_e_k c, e_149, o_e_k b, e7, o_e_k a, e192]
            exact hmk.2 j a
          have v7 : g_172 192 7 = 2 := by rw [q_172, o_cp_n (by decide), q_169, o_e_s]
          have v15 : g_172 192 15 = (i : Int) := by rw [q_172, o_cp_n (by decide), q_169, o_e_k (by decide), e_163, o_e_k (by decide), e_149, o_e_s]
          have v16 : g_172 192 16 = c_let c.1 (c_r Mi c) := by rw [q_172, o_cp_n (by decide), q_169, o_e_k (by decide), e_163, o_e_s]
          have hsM : o_sr (g_172 193) M := by
            refine sr_cpy hB hwf.1 (fun j hj => ?_)
            rw [q_172]
            unfold o_cp
            rw [if_pos ⟨rfl, by omega, by omega⟩, q_169, o_e_n (by decide), e_163, o_e_n (by decide), e_149, o_e_n (by decide), e7, o_e_n (by decide), f1 194 (fun q => absurd (show 194 = 193 from q) (by decide))]
            congr 1
            omega
          obtain ⟨t1, t2, t3, t4, t5, t6, t7'⟩ := hmw.2.2.2
          refine r_xI xv ⟨v7, ⟨hsM, r_m2_c hmw.2.1 (j2 6 (by decide) (by decide) (by decide)) (j1 197 (by omega)), r_m3_c hmw.2.2.1 (j2 4 (by decide) (by decide) (by decide)) (j1 196 (by omega)), ?_⟩, o_fr_t hfw (fun a ha => j1 a (fun q => ha ⟨by omega, by omega⟩))⟩
          exact ⟨(j2 11 (by decide) (by decide) (by decide)).trans t1, fun j hj => by rw [j1 199 (by omega)]; exact t2 j hj, (j2 9 (by decide) (by decide) (by decide)).trans t3, fun j hj => by rw [j1 198 (by omega)]; exact t4 j hj, (j2 14 (by decide) (by decide) (by decide)).trans t5, v15, v16⟩
  have key53 : ∀ (g1 : Nat → Nat → Int) (q : Nat) (b : Bool), o_pc g g1 → o_pv g1 t n q b → (x_r T).2.1 = q → (x_r T).1 = (!b && decide (n ≤ q)) → ((x_r T).1 = true → g1 192 18 = (x_r T).2.2.length ∧ ∀ j c, (x_r T).2.2[j]? = some c → o_cA g1 j c) → o_V l mX12_runCommands (d + 12) o_no (r_x (x_k T M) (x_v T M) (x_M T M) (x_P T M P) S (x_T T M) g) 53 [(0, .ref 192)] [] o_N (o_mem g1) 0 0 := by
    intro g1 q b fc hv1 hq hb hL
    obtain ⟨h1, h2, h3, h4, h5⟩ := id hv1
    have hb3 : ∀ W : Int, W = o_b (b = true ∨ q < n) → o_R W := fun W hW => by rw [hW]; exact o_bR _
    have keyB : ∀ g2 : Nat → Nat → Int, g2 = o_e g1 192 13 (o_b (b = true ∨ q < n)) → o_V l mX12_runCommands (d + 12) o_no (r_x (x_k T M) (x_v T M) (x_M T M) (x_P T M P) S (x_T T M) g) 80 [(0, .ref 192)] [] o_N (o_mem g2) 0 0 := by
      intro g2 e2
      have v13 : g2 192 13 = o_b (b = true ∨ q < n) := by rw [e2, o_e_s]
      have v12 : g2 192 12 = (q : Int) := by rw [e2, o_e_k (by decide)]; exact h3
      have j0 : ∀ a, a ≠ 192 → a ≠ 200 → g2 a = g a := fun a x y => by rw [e2, o_e_n x]; exact fc.1 a x y
      have j0' : ∀ j, j ≠ 12 → j ≠ 13 → j ≠ 18 → g2 192 j = g 192 j := fun j x y z => by rw [e2, o_e_k y]; exact fc.2 j x y z
      by_cases hbad : b = true ∨ q < n
      · have hf : (x_r T).1 = false := by
          rw [hb]
          rcases hbad with z | z
          · rw [z]; rfl
          · rw [decide_eq_false (by omega)]; cases b <;> rfl
        rw [o_b1 hbad] at v13
        refine o_aload_n dX12_runCommands_80 rfl ?_
        refine o_aload_n dX12_runCommands_81 rfl ?_
        refine o_gf dX12_runCommands_82 fl_X12_192 rfl (by decide) rfl ?_
        rw [v13]
        refine o_if_eq (tgt := 95) dX12_runCommands_85 (by decide) ⟨by omega, by omega⟩ (fun c => absurd c (by decide)) (fun _ => ?_)
        refine o_aload_n dX12_runCommands_88 rfl ?_
        refine o_gf dX12_runCommands_89 fl_X12_185 rfl (by decide) rfl ?_
        refine o_goto (tgt := 99) dX12_runCommands_92 (by decide) ?_
        refine o_pmE dX12_runCommands_99 fp_X12_32 rfl (by decide) (Nat.le_of_ble_eq_true rfl) rfl rfl (fun _ => rfl) (by decide) (fun g_99 e_99 => ?_)
        refine o_aload_n dX12_runCommands_102 rfl ?_
        refine o_iconst dX12_runCommands_103 ?_
        refine o_pmE dX12_runCommands_104 fp_X12_182 rfl (by decide) (Nat.le_of_ble_eq_true rfl) rfl rfl (fun _ => rfl) (by decide) (fun g_104 e_104 => ?_)
        refine o_aload_n dX12_runCommands_107 rfl ?_
        refine o_gf dX12_runCommands_108 fl_X12_192 rfl (by decide) rfl ?_
        rw [show g_104 192 13 = 1 by rw [e_104, o_e_k (by decide), e_99, o_e_k (by decide)]; exact v13]
        refine o_if_eq (tgt := 120) dX12_runCommands_111 (by decide) ⟨by omega, by omega⟩ (fun c => absurd c (by decide)) (fun _ => ?_)
        refine o_aload_n dX12_runCommands_114 rfl ?_
        refine o_iconst dX12_runCommands_115 ?_
        refine o_cVm _ (ct_X12_fails hl (d + 10) g_104 1) dX12_runCommands_116 ml_X12_70 yw_X12_fails rfl (by decide) (by omega) (by decide) rfl rfl rfl (Nat.le_of_ble_eq_true rfl) (fun g_116 q_116 => ?_)
        refine o_ret1 dX12_runCommands_119 trivial ?_
        have xk : x_k T M = 1 := by unfold x_k; rw [if_neg (by rw [hf]; decide)]
        have xT : x_T T M = o_e (o_e T 0 2 (q : Int)) 0 0 0 := by unfold x_T; rw [if_neg (by rw [hf]; decide), hq]
        have xM : x_M T M = M := by unfold x_M; rw [if_neg (by rw [xk]; decide)]
        have xP : x_P T M P = P := by unfold x_P; rw [if_neg (by rw [xk]; decide)]
        have xv : x_v T M = 0 := by unfold x_v; rw [if_neg (by rw [xk]; decide)]
        rw [xk, xT, xM, xP]
        have j1 : ∀ a, a ≠ 192 → a ≠ 200 → g_116 a = g a := fun a x y => by rw [q_116, o_e_n x, e_104, o_e_n x, e_99, o_e_n x]; exact j0 a x y
        have j2 : ∀ j, j ≠ 7 → j ≠ 11 → j ≠ 14 → j ≠ 12 → j ≠ 13 → j ≠ 18 → g_116 192 j = g 192 j := fun j a b c x y z => by rw [q_116, o_e_k a, e_104, o_e_k b, e_99, o_e_k c]; exact j0' j x y z
        obtain ⟨t1, t2, t3, t4, t5, t6, t7'⟩ := hmd.2.2.2
        refine r_xI xv ⟨by rw [q_116, o_e_s], ⟨by rw [j1 193 (by decide) (by decide)]; exact hmd.1, r_m2_c hmd.2.1 (j2 6 (by decide) (by decide) (by decide) (by decide) (by decide) (by decide)) (j1 197 (by decide) (by decide)), r_m3_c hmd.2.2.1 (j2 4 (by decide) (by decide) (by decide) (by decide) (by decide) (by decide)) (j1 196 (by decide) (by decide)), ?_⟩, fun a ha => j1 a (fun z => ha ⟨by omega, by omega⟩) (fun z => ha ⟨by omega, by omega⟩)⟩
        refine ⟨by rw [q_116, o_e_k (by decide), e_104, o_e_s]; rfl, fun j hj => ?_, (j2 9 (by decide) (by decide) (by decide) (by decide) (by decide) (by decide)).trans t3, fun j hj => by rw [j1 198 (by decide) (by decide)]; exact t4 j hj, by rw [q_116, o_e_k (by decide), e_104, o_e_k (by decide), e_99, o_e_s]; exact v12, (j2 15 (by decide) (by decide) (by decide) (by decide) (by decide) (by decide)).trans t6, (j2 16 (by decide) (by decide) (by decide) (by decide) (by decide) (by decide)).trans t7'⟩
        have hj : (j : Int) < 0 := hj
        omega
      · have hok : (x_r T).1 = true := by
          rw [hb]
          have z1 : b = false := by cases b with | true => exact absurd (Or.inl rfl) hbad | false => rfl
          have z2 : n ≤ q := Nat.le_of_not_lt (fun z => hbad (Or.inr z))
          rw [z1, decide_eq_true z2]; rfl
        obtain ⟨h18, hcs⟩ := hL hok
        rw [o_b0 hbad] at v13
        refine o_aload_n dX12_runCommands_80 rfl ?_
        refine o_aload_n dX12_runCommands_81 rfl ?_
        refine o_gf dX12_runCommands_82 fl_X12_192 rfl (by decide) rfl ?_
        rw [v13]
        refine o_if_eq (tgt := 95) dX12_runCommands_85 (by decide) ⟨by omega, by omega⟩ (fun _ => ?_) (fun c => absurd rfl c)
        refine o_aload_n dX12_runCommands_95 rfl ?_
        refine o_gf dX12_runCommands_96 fl_X12_32 rfl (by decide) rfl ?_
        refine o_pmE dX12_runCommands_99 fp_X12_32 rfl (by decide) (Nat.le_of_ble_eq_true rfl) rfl rfl (fun _ => rfl) (by decide) (fun g_99 e_99 => ?_)
        refine o_aload_n dX12_runCommands_102 rfl ?_
        refine o_iconst dX12_runCommands_103 ?_
        refine o_pmE dX12_runCommands_104 fp_X12_182 rfl (by decide) (Nat.le_of_ble_eq_true rfl) rfl rfl (fun _ => rfl) (by decide) (fun g_104 e_104 => ?_)
        refine o_aload_n dX12_runCommands_107 rfl ?_
        refine o_gf dX12_runCommands_108 fl_X12_192 rfl (by decide) rfl ?_
        rw [show g_104 192 13 = 0 by rw [e_104, o_e_k (by decide), e_99, o_e_k (by decide)]; exact v13]
        refine o_if_eq (tgt := 120) dX12_runCommands_111 (by decide) ⟨by omega, by omega⟩ (fun _ => ?_) (fun c => absurd rfl c)
        refine o_aload_n dX12_runCommands_120 rfl ?_
        refine o_cVm _ (ct_X12_keep hl (d + 10) g_104) dX12_runCommands_121 ml_X12_73 yw_X12_keep rfl (by decide) (by omega) (by decide) rfl rfl rfl (Nat.le_of_ble_eq_true rfl) (fun g_121 q_121 => ?_)
        refine o_iconst dX12_runCommands_124 ?_
        refine o_istore_n dX12_runCommands_125 (by decide) ?_
        have j1 : ∀ a, a ≠ 192 → a ≠ 200 → g_104 a = g a := fun a x y => by rw [e_104, o_e_n x, e_99, o_e_n x]; exact j0 a x y
        have v99 : g_99 = g2 := by
          rw [e_99]
          funext a j
          unfold o_e
          split
          · rename_i z; rw [z.1, z.2]
          · rfl
        have j2 : ∀ j, j ≠ 11 → j ≠ 12 → j ≠ 13 → j ≠ 18 → g_104 192 j = g 192 j := fun j b x y z => by rw [e_104, o_e_k b, v99]; exact j0' j x y z
        obtain ⟨t1, t2, t3, t4, t5, t6, t7'⟩ := hmd.2.2.2
        have hmw : o_md g_104 M P S (o_e T 0 0 0) := by
          refine ⟨by rw [j1 193 (by decide) (by decide)]; exact hmd.1, r_m2_c hmd.2.1 (j2 6 (by decide) (by decide) (by decide) (by decide)) (j1 197 (by decide) (by decide)), r_m3_c hmd.2.2.1 (j2 4 (by decide) (by decide) (by decide) (by decide)) (j1 196 (by decide) (by decide)), by rw [e_104, o_e_s]; rfl, fun j hj => ?_, (j2 9 (by decide) (by decide) (by decide) (by decide)).trans t3, fun j hj => by rw [j1 198 (by decide) (by decide)]; exact t4 j hj, (j2 14 (by decide) (by decide) (by decide) (by decide)).trans t5, (j2 15 (by decide) (by decide) (by decide) (by decide)).trans t6, (j2 16 (by decide) (by decide) (by decide) (by decide)).trans t7'⟩
          have hj : (j : Int) < 0 := hj
          omega
        have hfw : o_fr r_m9 g g_104 := fun a ha => j1 a (fun z => ha ⟨by omega, by omega⟩) (fun z => ha ⟨by omega, by omega⟩)
        obtain ⟨s1, s2, s3, s4⟩ := r_keep hmw hwf.1 q_121
        have hall := p_all_ok (t := t) (n := n) 12 0 (Nat.zero_le _) (by rw [← hxr]; exact hok)
        rw [← hxr] at hall
        have c200 : g_121 200 = g1 200 := (s4.1 200 (by omega)).trans (by rw [e_104, o_e_n (by decide), v99, e2, o_e_n (by decide)])
        have c18 : g_121 192 18 = (x_r T).2.2.length := by rw [s4.2 18 (by decide), e_104, o_e_k (by decide), v99, e2, o_e_k (by decide)]; exact h18
        exact o_loc [(0, .ref 192), (1, .int (o_I ((0 : Nat) : Int)))] rfl (keyC g_104 g_121 hmw hfw hok s4 s3 s2 c18 (x_r T).2.2 0 M g_121 s1 hwf o_fr_r (Nat.zero_add _) (by omega) (by omega) (fun j c hj => ⟨by rw [Nat.zero_add]; exact o_cA_cg (hcs j c hj) (c_ok3 (hall.1 c (List.mem_of_getElem? hj))) (fun i _ => by rw [c200]), hall.1 c (List.mem_of_getElem? hj)⟩) rfl (fun _ => rfl))
    cases b with
    | true =>
      rw [o_bT] at h4
      refine o_aload_n dX12_runCommands_53 rfl ?_
      refine o_aload_n dX12_runCommands_54 rfl ?_
      refine o_gf dX12_runCommands_55 fl_X12_192 rfl (by decide) rfl ?_
      rw [h4]
      refine o_if_ne (tgt := 72) dX12_runCommands_58 (by decide) ⟨by omega, by omega⟩ (fun c_58 => ?_) (fun c_58 => ?_)
      · skip
        refine o_iconst dX12_runCommands_72 ?_
        refine o_goto (tgt := 77) dX12_runCommands_73 (by decide) ?_
        refine o_pmE dX12_runCommands_77 fp_X12_192 rfl (by decide) (Nat.le_of_ble_eq_true rfl) rfl rfl (fun _ => rfl) (by decide) (fun g_77 e_77 => ?_)
        exact keyB g_77 (by rw [e_77, o_b1 (Or.inl rfl)])
      · skip
        exfalso
        omega
    | false =>
      rw [o_bF] at h4
      refine o_aload_n dX12_runCommands_53 rfl ?_
      refine o_aload_n dX12_runCommands_54 rfl ?_
      refine o_gf dX12_runCommands_55 fl_X12_192 rfl (by decide) rfl ?_
      refine o_if_ne (tgt := 72) dX12_runCommands_58 (by decide) ⟨by omega, by omega⟩ (fun c => absurd h4 c) (fun _ => ?_)
      refine o_aload_n dX12_runCommands_61 rfl ?_
      refine o_gf dX12_runCommands_62 fl_X12_185 rfl (by decide) rfl ?_
      refine o_aload_n dX12_runCommands_65 rfl ?_
      refine o_gf dX12_runCommands_66 fl_X12_182 rfl (by decide) rfl ?_
      refine o_icmp_ge (tgt := 76) dX12_runCommands_69 (by decide) ⟨by omega, by omega⟩ ⟨by omega, by omega⟩ (fun c_69 => ?_) (fun c_69 => ?_)
      · skip
        refine o_iconst dX12_runCommands_76 ?_
        refine o_pmE dX12_runCommands_77 fp_X12_192 rfl (by decide) (Nat.le_of_ble_eq_true rfl) rfl rfl (fun _ => rfl) (by decide) (fun g_77 e_77 => ?_)
        exact keyB g_77 (by rw [e_77, o_b0 (fun z => by rcases z with z | z; exact absurd z (by decide); omega)])
      · skip
        refine o_iconst dX12_runCommands_72 ?_
        refine o_goto (tgt := 77) dX12_runCommands_73 (by decide) ?_
        refine o_pmE dX12_runCommands_77 fp_X12_192 rfl (by decide) (Nat.le_of_ble_eq_true rfl) rfl rfl (fun _ => rfl) (by decide) (fun g_77 e_77 => ?_)
        exact keyB g_77 (by rw [e_77, o_b1 (Or.inr (by omega))])
  have key19 : ∀ (f p0 i : Nat) (Lp : List (Nat × List Int)) (g1 : Nat → Nat → Int), p0 ≤ n → n ≤ p0 + 5 * f → 5 * i ≤ p0 → Lp.length = i → o_pc g g1 → o_pv g1 t n (p_cmd t n p0).2.1 (!(p_cmd t n p0).1) → g1 192 18 = (i : Int) + 1 → (∀ j c, Lp[j]? = some c → o_cA g1 j c ∧ c.2.length ≤ 3) → ((p_cmd t n p0).1 = true → o_cA g1 i (p_cmd t n p0).2.2) → x_r T = ((p_all t n (f + 1) p0).1, (p_all t n (f + 1) p0).2.1, Lp ++ (p_all t n (f + 1) p0).2.2) → o_V l mX12_runCommands (d + 12) o_no (r_x (x_k T M) (x_v T M) (x_M T M) (x_P T M P) S (x_T T M) g) 19 [(0, .ref 192)] [] o_N (o_mem g1) 0 0 := by
    intro f
    induction f with
    | zero =>
      intro p0 i Lp g1 hp hf hi hLl fc hv1 h18 hcs hA hx
      have hend := p_cmd_end (t := t) (n := n) (p := p0) (by omega)
      have e1 : p_all t n 1 p0 = (false, p0, []) := by
        show (if (p_cmd t n p0).1 = true then _ else _ : Bool × Nat × List (Nat × List Int)) = _
        rw [hend.1, if_neg (by decide), hend.2]
      rw [e1] at hx
      have h4 : g1 192 13 = 1 := by have := hv1.2.2.2.1; rw [hend.1] at this; exact this.trans o_bT
      refine o_aload_n dX12_runCommands_19 rfl ?_
      refine o_gf dX12_runCommands_20 fl_X12_192 rfl (by decide) rfl ?_
      rw [h4]
      refine o_if_ne (tgt := 53) dX12_runCommands_23 (by decide) ⟨by omega, by omega⟩ (fun c_23 => ?_) (fun c_23 => ?_)
      · skip
        exact key53 g1 _ _ fc hv1 (by rw [hx, hend.2]) (by rw [hx, hend.1]; rfl) (fun z => by rw [hx] at z; cases z)
      · skip
        exfalso
        omega
    | succ f ih =>
      intro p0 i Lp g1 hp hf hi hLl fc hv1 h18 hcs hA hx
      obtain ⟨h1, h2, h3, h4, h5⟩ := id hv1
      have hin := p_cmd_in (t := t) hp
      have ea : p_all t n (f + 1 + 1) p0 = (if (p_cmd t n p0).1 = true then (if n ≤ (p_cmd t n p0).2.1 then (true, (p_cmd t n p0).2.1, [(p_cmd t n p0).2.2]) else if p_tx t n (p_cmd t n p0).2.1 = 59 then ((p_all t n (f + 1) ((p_cmd t n p0).2.1 + 1)).1, (p_all t n (f + 1) ((p_cmd t n p0).2.1 + 1)).2.1, (p_cmd t n p0).2.2 :: (p_all t n (f + 1) ((p_cmd t n p0).2.1 + 1)).2.2) else (false, (p_cmd t n p0).2.1, [(p_cmd t n p0).2.2])) else (false, (p_cmd t n p0).2.1, [])) := rfl
      by_cases c1 : (p_cmd t n p0).1 = true
      · rw [if_pos c1] at ea
        have h4 : g1 192 13 = 0 := by rw [c1] at h4; exact h4.trans o_bF
        have hxx := p_tx_R ht (p_cmd t n p0).2.1
        have hv2 : o_pv g1 t n (p_cmd t n p0).2.1 false := by have := hv1; rw [c1] at this; exact this
        have hok := p_cmd_ok c1
        refine o_aload_n dX12_runCommands_19 rfl ?_
        refine o_gf dX12_runCommands_20 fl_X12_192 rfl (by decide) rfl ?_
        refine o_if_ne (tgt := 53) dX12_runCommands_23 (by decide) ⟨by omega, by omega⟩ (fun c => absurd h4 c) (fun _ => ?_)
        refine o_aload_n dX12_runCommands_26 rfl ?_
        refine o_iconst dX12_runCommands_27 ?_
        refine o_cV _ (ct_X12_behind hl (d + 10) g1 t n (p_cmd t n p0).2.1 hn60 ht false hv2 0 (by decide)) dX12_runCommands_28 ml_X12_196 yw_X12_behind rfl (by decide) (by omega) (by decide) rfl rfl rfl (Nat.le_of_ble_eq_true rfl) ?_
        refine o_bipush dX12_runCommands_31 (by decide) ?_
        simp only [Nat.add_zero]
        refine o_icmp_ne (tgt := 53) dX12_runCommands_33 (by decide) ⟨by omega, by omega⟩ ⟨by omega, by omega⟩ (fun c_33 => ?_) (fun c_33 => ?_)
        · skip
          by_cases c2 : n ≤ (p_cmd t n p0).2.1
          · rw [if_pos c2] at ea
            rw [ea] at hx
            refine key53 g1 _ _ fc hv1 (by rw [hx]) (by rw [hx, c1, decide_eq_true c2]; rfl) (fun _ => ⟨by rw [hx, h18]; show _ = (((Lp ++ [_]).length : Nat) : Int); rw [List.length_append, hLl]; rfl, fun j c hj => ?_⟩)
            rw [hx] at hj
            have hj : (Lp ++ [(p_cmd t n p0).2.2])[j]? = some c := hj
            rcases Nat.lt_or_ge j Lp.length with z | z
            · rw [List.getElem?_append_left z] at hj
              exact (hcs j c hj).1
            · rw [List.getElem?_append_right z] at hj
              have z2 : j - Lp.length = 0 := by
                rcases Nat.eq_zero_or_pos (j - Lp.length) with q | q
                · exact q
                · rw [List.getElem?_eq_none (by show 1 ≤ _; omega)] at hj; cases hj
              rw [z2] at hj
              cases hj
              rw [show j = i by omega]
              exact hA c1
          · rw [if_neg c2, if_neg (by omega)] at ea
            rw [ea] at hx
            exact key53 g1 _ _ fc hv1 (by rw [hx]) (by rw [hx, c1, decide_eq_false c2]; rfl) (fun z => by rw [hx] at z; cases z)
        · skip
          have hlt : (p_cmd t n p0).2.1 < n := p_tx_in (t := t) (by omega)
          rw [if_neg (by omega), if_pos c_33] at ea
          refine o_aload_n dX12_runCommands_36 rfl ?_
          refine o_dup dX12_runCommands_37 rfl ?_
          refine o_gf dX12_runCommands_38 fl_X12_185 rfl (by decide) rfl ?_
          refine o_iconst dX12_runCommands_41 ?_
          refine o_iadd dX12_runCommands_42 ?_
          refine o_pmE dX12_runCommands_43 fp_X12_185 rfl (by decide) (Nat.le_of_ble_eq_true rfl) rfl rfl (fun _ => rfl) (by decide) (fun g_43 e_43 => ?_)
          refine o_aload_n dX12_runCommands_46 rfl ?_
          refine o_cVm _ (ct_X12_readCommand hl (d + 2) g_43 t n ((p_cmd t n p0).2.1 + 1) hn60 ht (o_pv_12 hv2 e_43 (by omega) (by omega)) (i + 1) (by omega) (by rw [e_43, o_e_k (by decide), h18]; rfl)) dX12_runCommands_47 ml_X12_243 yw_X12_readCommand rfl (by decide) (by omega) (by decide) rfl rfl rfl (Nat.le_of_ble_eq_true rfl) (fun g_47 q_47 => ?_)
          obtain ⟨r1, r2, r3, r4, r5⟩ := q_47
          refine o_goto (tgt := 19) dX12_runCommands_50 (by decide) ?_
          have h4p := hin.2.2 c1
          exact ih ((p_cmd t n p0).2.1 + 1) (i + 1) (Lp ++ [(p_cmd t n p0).2.2]) g_47 (by omega) (by omega) (by omega) (by rw [List.length_append, hLl]; rfl) (o_pc_t (o_pc_k fc (o_pk_e o_pk_r e_43 (Or.inl rfl))) r2) r1 r3 (fun j c hj => by
            have c43 : g_43 200 = g1 200 := by rw [e_43, o_e_n (by decide)]
            rcases Nat.lt_or_ge j Lp.length with z | z
            · rw [List.getElem?_append_left z] at hj
              exact ⟨o_cA_cg (hcs j c hj).1 (hcs j c hj).2 (fun x hx => by rw [r4 x (by omega), c43]), (hcs j c hj).2⟩
            · rw [List.getElem?_append_right z] at hj
              have z2 : j - Lp.length = 0 := by
                rcases Nat.eq_zero_or_pos (j - Lp.length) with q | q
                · exact q
                · rw [List.getElem?_eq_none (by show 1 ≤ _; omega)] at hj; cases hj
              rw [z2] at hj
              cases hj
              rw [show j = i by omega]
              exact ⟨o_cA_cg (hA c1) (c_ok3 hok) (fun x hx => by rw [r4 x (by omega), c43]), c_ok3 hok⟩) r5 (by rw [hx, ea, List.append_assoc]; rfl)
      · have c1' : (p_cmd t n p0).1 = false := by cases z : (p_cmd t n p0).1 with | true => exact absurd z c1 | false => rfl
        rw [if_neg c1] at ea
        rw [ea] at hx
        have h4 : g1 192 13 = 1 := by rw [c1'] at h4; exact h4.trans o_bT
        refine o_aload_n dX12_runCommands_19 rfl ?_
        refine o_gf dX12_runCommands_20 fl_X12_192 rfl (by decide) rfl ?_
        rw [h4]
        refine o_if_ne (tgt := 53) dX12_runCommands_23 (by decide) ⟨by omega, by omega⟩ (fun c_23 => ?_) (fun c_23 => ?_)
        · skip
          exact key53 g1 _ _ fc hv1 (by rw [hx]) (by rw [hx, c1']; rfl) (fun z => by rw [hx] at z; cases z)
        · skip
          exfalso
          omega
  refine o_aload_n dX12_runCommands_0 rfl ?_
  refine o_iconst dX12_runCommands_1 ?_
  refine o_pmE dX12_runCommands_2 fp_X12_185 rfl (by decide) (Nat.le_of_ble_eq_true rfl) rfl rfl (fun _ => rfl) (by decide) (fun g_2 e_2 => ?_)
  refine o_aload_n dX12_runCommands_5 rfl ?_
  refine o_iconst dX12_runCommands_6 ?_
  refine o_pmE dX12_runCommands_7 fp_X12_192 rfl (by decide) (Nat.le_of_ble_eq_true rfl) rfl rfl (fun _ => rfl) (by decide) (fun g_7 e_7 => ?_)
  refine o_aload_n dX12_runCommands_10 rfl ?_
  refine o_iconst dX12_runCommands_11 ?_
  refine o_pmE dX12_runCommands_12 fp_X12_213 rfl (by decide) (Nat.le_of_ble_eq_true rfl) rfl rfl (fun _ => rfl) (by decide) (fun g_12 e_12 => ?_)
  refine o_aload_n dX12_runCommands_15 rfl ?_
  obtain ⟨t1, t2, t3, t4, t5, t6, t7'⟩ := hmd.2.2.2
  have hv12 : o_pv g_12 t n 0 false := by
    refine ⟨by rw [e_12, o_e_k (by decide), e_7, o_e_k (by decide), e_2, o_e_k (by decide), t1, hn], fun j hj => ?_, by rw [e_12, o_e_k (by decide), e_7, o_e_k (by decide), e_2, o_e_s]; rfl, by rw [e_12, o_e_k (by decide), e_7, o_e_s, o_bF], Nat.zero_le _⟩
    rw [e_12, o_e_n (by decide), e_7, o_e_n (by decide), e_2, o_e_n (by decide), t2 j (by omega), ht9]
  refine o_cVm _ (ct_X12_readCommand hl (d + 2) g_12 t n 0 hn60 ht hv12 0 (by decide) (by rw [e_12, o_e_s]; rfl)) dX12_runCommands_16 ml_X12_243 yw_X12_readCommand rfl (by decide) (by omega) (by decide) rfl rfl rfl (Nat.le_of_ble_eq_true rfl) (fun g_16 q_16 => ?_)
  obtain ⟨r1, r2, r3, r4, r5⟩ := q_16
  exact key19 12 0 0 [] g_16 (Nat.zero_le _) (by omega) (Nat.le_refl _) rfl (o_pc_t (o_pc_18 (o_pc_k o_pc_r (o_pk_e (o_pk_e o_pk_r e_2 (Or.inl rfl)) e_7 (Or.inr rfl))) e_12) r2) r1 r3 (fun j c hj => by cases hj) r5 (by rw [hxr2]; rfl)

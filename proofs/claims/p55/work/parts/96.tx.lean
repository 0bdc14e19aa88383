/-! the law's texts -/
/-- an answer beside other cells -/
def t_P (N : Nat) (h : Nat → o_C) (v : Value) (M' : Nat → Nat → Int) (P' : List (Nat → Nat → Int)) (S' : Option (Nat → Nat → Int)) (T' : Nat → Nat → Int) : o_P := fun o n' h' => o = .inl (some v) ∧ n' = N ∧ ∃ g', o_xd g' M' P' S' T' ∧ t_H N g' h' ∧ ∀ k, 192 ≤ k → h' k = h k
theorem t_r1 : narrow .boolean (.int (o_I 1)) = .int (o_I 1) := o_rb1
theorem cl_outputAt {l : Launch} (hl : l.stackTraces = false) (d : Nat) (g M : Nat → Nat → Int) (P : List (Nat → Nat → Int)) (S : Option (Nat → Nat → Int)) (T : Nat → Nat → Int) (hxd : o_xd g M P S T) (hwf : o_wf M) (hT1 : 0 ≤ T 0 1 ∧ T 0 1 ≤ 120) (hch : ∀ j : Nat, (j : Int) < T 0 1 → 0 ≤ T 2 j ∧ T 2 j < 128) (k : Nat) (hk : (k : Int) < T 0 1) : o_Ct l yL_outputAt wL_outputAt (d + 6) o_no [.ref 0, .int (o_I (k : Int))] o_N (o_mem g) 1 6 (y_x (.int (o_I (T 2 k))) M P S T) := by
  have t := ct_L_outputAt hl (d + 5) g M P S T _ _ (k : Int) (ct_X11_outputChar hl d g M P S T hxd hwf hT1 hch (k : Int) ⟨by omega, by omega⟩)
  rw [h_ci ⟨by omega, hk⟩, Int.toNat_natCast] at t
  exact t
theorem cx_outputAt {l : Launch} (hl : l.stackTraces = false) (d : Nat) (g M : Nat → Nat → Int) (P : List (Nat → Nat → Int)) (S : Option (Nat → Nat → Int)) (T : Nat → Nat → Int) (hxd : o_xd g M P S T) (hwf : o_wf M) (hT1 : 0 ≤ T 0 1 ∧ T 0 1 ≤ 120) (hch : ∀ j : Nat, (j : Int) < T 0 1 → 0 ≤ T 2 j ∧ T 2 j < 128) (i : Int) (hi : o_R i) (hp : ¬ (0 ≤ i ∧ i < T 0 1)) : o_Ct l yL_outputAt wL_outputAt (d + 6) o_no [.ref 0, .int (o_I i)] o_N (o_mem g) 1 6 (y_x (.int (o_I (-11))) M P S T) := by
  have t := ct_L_outputAt hl (d + 5) g M P S T _ _ i (ct_X11_outputChar hl d g M P S T hxd hwf hT1 hch i hi)
  rw [h_cx hp] at t
  exact t
/-! the law's String constants -/
theorem t_q293 : (RL, 293, "", 60) ∈ o_str := List.mem_of_getElem? (i := 16) rfl
theorem t_q302 : (RL, 302, " ", 61) ∈ o_str := List.mem_of_getElem? (i := 17) rfl
theorem t_q307 : (RL, 307, "s", 62) ∈ o_str := List.mem_of_getElem? (i := 18) rfl
theorem t_q309 : (RL, 309, "e", 63) ∈ o_str := List.mem_of_getElem? (i := 19) rfl
theorem t_q319 : (RL, 319, "r", 64) ∈ o_str := List.mem_of_getElem? (i := 20) rfl
theorem t_q351 : (RL, 351, "oil ", 65) ∈ o_str := List.mem_of_getElem? (i := 21) rfl
theorem t_q353 : (RL, 353, ";wait;drop ", 66) ∈ o_str := List.mem_of_getElem? (i := 22) rfl
theorem t_q359 : (RL, 359, "wait ", 67) ∈ o_str := List.mem_of_getElem? (i := 23) rfl
theorem t_q361 : (RL, 361, ";lease ", 68) ∈ o_str := List.mem_of_getElem? (i := 24) rfl
theorem t_q363 : (RL, 363, " 3;wait;renew ", 69) ∈ o_str := List.mem_of_getElem? (i := 25) rfl
theorem t_q365 : (RL, 365, " 2", 70) ∈ o_str := List.mem_of_getElem? (i := 26) rfl
theorem t_w295 : Cond.classLink RL 295 RJ4 ∈ o_gW := (o_gT (i := 1087) (by decide +kernel) rfl)
set_option maxRecDepth 100000 in
set_option maxHeartbeats 4000000 in
theorem ct_L_spells {l : Launch} (hl : l.stackTraces = false) (d N : Nat) (g M : Nat → Nat → Int) (P : List (Nat → Nat → Int)) (S : Option (Nat → Nat → Int)) (T : Nat → Nat → Int) (h : Nat → o_C) (r : Nat) (L : List Int) (hx : o_xd g M P S T) (hwf : o_wf M) (hH : t_H N g h) (hS : t_S N h r L) (hT : T 0 1 = L.length) (hTL : ∀ j, j < L.length → T 2 j = L.getD j 0) : o_Ct l yL_spells wL_spells (d + 10) o_no [.ref 0, .int (o_I (L.length : Int)), .ref r] N h 150 900 (t_P N h (.int (o_I 1)) M P S T) := by
  refine o_Ct.ofV hl mL_spells (by decide +kernel) rfl rfl rfl (Nat.le_of_ble_eq_true rfl) ?_
  have hb9 := hS.2.2.1
  have hch9 : ∀ j : Nat, j < L.length → 0 ≤ L.getD j 0 ∧ L.getD j 0 < 128 := fun j hj => hS.2.1 _ (o_getD_mem hj)
  have hch : ∀ j : Nat, (j : Int) < T 0 1 → 0 ≤ T 2 j ∧ T 2 j < 128 := fun j hj => by rw [hTL j (by omega)]; exact hch9 j (by omega)
  have hT1 : 0 ≤ T 0 1 ∧ T 0 1 ≤ 120 := ⟨by omega, by omega⟩
  refine o_iload_n dL_spells_0 rfl ?_
  refine o_aload_n dL_spells_1 rfl ?_
  refine tx_len hl hS dL_spells_2 ml_L_127 (Nat.le_of_ble_eq_true rfl) (by omega) ?_
  refine o_icmp_ne (tgt := 12) dL_spells_5 (by decide) ⟨by omega, by omega⟩ ⟨by omega, by omega⟩ (fun c_5 => absurd rfl c_5) (fun c_5 => ?_)
  refine o_iconst dL_spells_8 ?_
  refine o_goto (tgt := 13) dL_spells_9 (by decide) ?_
  refine o_istore_n dL_spells_13 (by decide) ?_
  refine o_iconst dL_spells_14 ?_
  refine o_istore dL_spells_15 (by decide) ?_
  have key := o_lp (fun k => ∀ (g9 : Nat → Nat → Int) (h9 : Nat → o_C) (mc ms : Nat), o_xd g9 M P S T → t_H N g9 h9 → (∀ q, 192 ≤ q → h9 q = h q) → (L.length - k) + 2 ≤ mc → 6 * (L.length - k) + 12 ≤ ms → o_V l mL_spells (d + 10) o_no (t_P N h (.int (o_I 1)) M P S T) 17 [(0, .ref 0), (1, .int (o_I (L.length : Int))), (2, .ref r), (3, .int (o_I 1)), (4, .int (o_I (k : Int)))] [] N h9 mc ms) L.length (fun k hk ih g9 h9 mc ms hx hH he h1 h2 => by
    have hS9 : t_S N h9 r L := hS.mv (Nat.le_refl _) (fun q hq _ => he q (by
      have := hS.1
      rcases hq with rfl | rfl
      · exact this
      · unfold t_w; split <;> omega))
    refine o_iload dL_spells_17 rfl ?_
    refine o_aload_n dL_spells_19 rfl ?_
    refine tx_len hl hS9 dL_spells_20 ml_L_127 (Nat.le_of_ble_eq_true rfl) (by omega) ?_
    refine o_icmp_ge (tgt := 57) dL_spells_23 (by decide) ⟨by omega, by omega⟩ ⟨by omega, by omega⟩ (fun c_23 => ?_) (fun c_23 => ?_)
    · refine o_iload_n dL_spells_57 rfl ?_
      refine o_if_eq (tgt := 75) dL_spells_58 (by decide) ⟨by omega, by omega⟩ (fun c_58 => absurd c_58 (by omega)) (fun c_58 => ?_)
      refine o_aload_n dL_spells_61 rfl ?_
      refine o_iload_n dL_spells_62 rfl ?_
      refine tx_q [.ref 0, .int (o_I (L.length : Int))] (cx_outputAt hl 0 g9 M P S T hx hwf hT1 hch (L.length : Int) ⟨by omega, by omega⟩ (by omega)) hH y_int dL_spells_63 ml_L_290 ys_L_outputAt rfl (by decide) (by omega) (by omega) (by omega) rfl (Nat.le_of_ble_eq_true rfl) (fun g8 h8 hx8 hH8 he8 => ?_)
      refine o_bipush dL_spells_66 (by decide) ?_
      refine o_icmp_ne (tgt := 75) dL_spells_68 (by decide) ⟨by omega, by omega⟩ ⟨by omega, by omega⟩ (fun c_68 => absurd rfl c_68) (fun c_68 => ?_)
      refine o_iconst dL_spells_71 ?_
      refine o_goto (tgt := 76) dL_spells_72 (by decide) ?_
      refine o_ret1 dL_spells_76 t_r1 ?_
      exact ⟨rfl, rfl, g8, hx8, hH8, fun q hq => (he8 q hq).trans (he q hq)⟩
    · refine o_iload_n dL_spells_26 rfl ?_
      refine o_if_eq (tgt := 57) dL_spells_27 (by decide) ⟨by omega, by omega⟩ (fun c_27 => absurd c_27 (by omega)) (fun c_27 => ?_)
      refine o_aload_n dL_spells_30 rfl ?_
      refine o_iload dL_spells_31 rfl ?_
      have hk9 : k < L.length := by omega
      refine tx_q [.ref 0, .int (o_I (k : Int))] (cl_outputAt hl 0 g9 M P S T hx hwf hT1 hch k (by omega)) hH y_int dL_spells_33 ml_L_290 ys_L_outputAt rfl (by decide) (by omega) (by omega) (by omega) rfl (Nat.le_of_ble_eq_true rfl) (fun g8 h8 hx8 hH8 he8 => ?_)
      have hS8 : t_S N h8 r L := hS9.mv (Nat.le_refl _) (fun q hq _ => he8 q (by
        have := hS.1
        rcases hq with rfl | rfl
        · exact this
        · unfold t_w; split <;> omega))
      refine o_aload_n dL_spells_36 rfl ?_
      refine o_iload dL_spells_37 rfl ?_
      refine tx_chr hl hS8 ⟨by omega, by omega⟩ dL_spells_39 ml_L_132 (Nat.le_of_ble_eq_true rfl) (by omega) ?_
      have t9 := hch9 k hk9
      rw [hTL k hk9, Int.toNat_natCast]
      refine o_icmp_ne (tgt := 49) dL_spells_42 (by decide) ⟨by omega, by omega⟩ ⟨by omega, by omega⟩ (fun c_42 => absurd rfl c_42) (fun c_42 => ?_)
      refine o_iconst dL_spells_45 ?_
      refine o_goto (tgt := 50) dL_spells_46 (by decide) ?_
      refine o_istore_n dL_spells_50 (by decide) ?_
      refine o_iinc dL_spells_51 rfl (by decide) ?_
      refine o_goto (tgt := 17) dL_spells_54 (by decide) ?_
      exact o_loc [(0, .ref 0), (1, .int (o_I (L.length : Int))), (2, .ref r), (3, .int (o_I 1)), (4, .int (o_I ((k + 1 : Nat) : Int)))] rfl (ih hk9 g8 h8 _ _ hx8 hH8 (fun q hq => (he8 q hq).trans (he q hq)) (by omega) (by omega)))
  exact o_loc [(0, .ref 0), (1, .int (o_I (L.length : Int))), (2, .ref r), (3, .int (o_I 1)), (4, .int (o_I ((0 : Nat) : Int)))] rfl (key 0 (Nat.zero_le _) g h _ _ hx hH (fun q _ => rfl) (by omega) (by omega))
def t_al : Nat → Prop := fun k => 191 ≤ k ∧ k < 1000000
theorem tx_num {l : Launch} {M : o_M} {d : Nat} {al : Nat → Prop} {post : o_P} {pc : Nat} {ls : List (Nat × Value)} {rest : List Value} {mc ms N : Nat} {g : Nat → Nat → Int} {h : Nat → o_C} {b i : Nat} {z : Int} {L : List Int} (hl9 : l.stackTraces = false) (hH : t_H N g h) (hB : t_B N h b L) (hz : 0 ≤ z ∧ z < 10000000) (hd : decode M.2.1 pc = .ok (.invokevirtual i, 3)) (hml : Cond.methodLink M.1 i yJ4_append_bf812 ∈ o_gW) (hlen : L.length ≤ 102) (hal : al (b + 1)) (hls : ∀ q ∈ ls, ∀ k : Nat, q.2 = .ref k → k ≠ b + 1) (hst : ∀ v ∈ rest, ∀ k : Nat, v = .ref k → k ≠ b + 1) (hcat : (rest.map fun v => v.category).sum ≤ 8) (hdd : 5 < d) (hmc : 1 ≤ mc) (hms : 220 ≤ ms)
    (k : ∀ h', t_H N g h' → t_B N h' b (L ++ t_num z) → (∀ k, k ≠ b → k ≠ b + 1 → h' k = h k) → o_V l M d al post (pc + 3) ls (.ref b :: rest) N h' (mc - 1) (ms - 220)) : o_V l M d al post pc ls (.int (o_I z) :: .ref b :: rest) N h mc ms := by
  obtain ⟨v, rfl⟩ : ∃ v : Nat, z = v := ⟨z.toNat, by omega⟩
  refine tx_int hl9 hH hB (by omega) hd hml hlen hal hls hst hcat hdd hmc hms (fun h' a b c => k h' a ?_ c)
  unfold t_num
  rw [Int.toNat_natCast]
  exact b
section TT
variable {l : Launch} {d N r k mc ms : Nat} {g M T : Nat → Nat → Int} {P : List (Nat → Nat → Int)} {S : Option (Nat → Nat → Int)} {h : Nat → o_C} {X : List Int}
set_option maxRecDepth 100000 in
set_option maxHeartbeats 4000000 in
theorem tt_end (hl : l.stackTraces = false) (hx : o_xd g M P S T) (hwf : o_wf M) (hk : (k : Int) < M 0 1) {b : Nat} (hH : t_H N g h) (hB : t_B N h b X) (hN : N ≤ 700000) (hX : X.length ≤ 108) (hr : r < b ∨ 1000000 ≤ r) (hmc : 40 ≤ mc) (hms : 800 ≤ ms)
    (K : ∀ (g' : Nat → Nat → Int) (h' : Nat → o_C) (mc9 ms9 : Nat), o_xd g' M P S T → t_H (N + 2) g' h' → t_S (N + 2) h' N (X ++ (if 0 ≤ m_pos M k then [114] else [])) → mc ≤ mc9 + 40 → ms ≤ ms9 + 800 → o_V l mL_texts (d + 12) t_al (y_x (.int (o_I 1)) M P S (t_out T (t_all M (M 0 1).toNat))) 6 [(0, .ref 0), (1, .ref N), (2, .int (o_I ((k + 1 : Nat) : Int)))] [] (N + 2) h' mc9 ms9) : o_V l mL_texts (d + 12) t_al (y_x (.int (o_I 1)) M P S (t_out T (t_all M (M 0 1).toNat))) 104 [(0, .ref 0), (1, .ref r), (2, .int (o_I (k : Int)))] [.ref b] N h mc ms := by
  have b9 := hwf.1.2.1.2.2.2.2 k hk
  have b8 := hwf.2.1
  have b7 := hwf.1.2.1.2.1
  have hb0 := hB.1
  have hb1 := hB.2.1
  refine o_aload_n dL_texts_104 rfl ?_
  refine o_iload_n dL_texts_105 rfl ?_
  refine tx_s [.ref 0, .int (o_I (k : Int))] (ct_L_isAsked hl 0 g M P S T hx hwf k (by omega)) hH y_int dL_texts_106 ml_L_315 ys_L_isAsked rfl (by decide) (by omega) (by omega) (by omega) rfl (Nat.le_of_ble_eq_true rfl) (fun g1 h1 hx1 hH1 he1 => ?_)
  have hB1 : t_B N h1 b X := hB.mv (Nat.le_refl _) (he1 _ (by omega)) (he1 _ (by omega))
  have J : ∀ (x : Nat), t_S N h1 x (if 0 ≤ m_pos M k then [114] else []) → o_V l mL_texts (d + 12) t_al (y_x (.int (o_I 1)) M P S (t_out T (t_all M (M 0 1).toNat))) 121 [(0, .ref 0), (1, .ref r), (2, .int (o_I (k : Int)))] [.ref x, .ref b] N h1 (mc - 30) (ms - 180) := fun x hSx => by
    refine tx_app hl hH1 hB1 hSx dL_texts_121 ml_L_298 (by split <;> simp <;> omega) ⟨by omega, by omega⟩ (fun q hq z hz => by simp only [List.mem_cons, List.not_mem_nil, or_false] at hq; rcases hq with rfl | rfl | rfl <;> (cases hz; try omega)) (fun v hv => by cases hv) (Nat.le_of_ble_eq_true rfl) (by omega) (by omega) (by omega) (fun h2 hH2 hB2 he2 => ?_)
    refine tx_str hl hH2 hB2 (by omega) dL_texts_124 ml_L_311 (by rw [List.length_append]; split <;> simp <;> omega) (fun k h1 h2 => ⟨by omega, h2⟩) (fun q hq z hz => by simp only [List.mem_cons, List.not_mem_nil, or_false] at hq; rcases hq with rfl | rfl | rfl <;> (cases hz; try omega)) (fun v hv => by cases hv) (Nat.le_of_ble_eq_true rfl) (by omega) (by omega) (by omega) (fun h3 hH3 hS3 he3 => ?_)
    refine o_astore_n dL_texts_127 (by decide) ?_
    refine o_iinc dL_texts_128 rfl (by decide) ?_
    refine o_goto (tgt := 6) dL_texts_131 (by decide) ?_
    exact o_loc [(0, .ref 0), (1, .ref N), (2, .int (o_I ((k + 1 : Nat) : Int)))] rfl (K g1 h3 _ _ hx1 hH3 hS3 (by omega) (by omega))
  rcases o_bcs (0 ≤ m_pos M k) with ⟨q1, q2⟩ | ⟨q1, q2⟩
  · rw [q1]
    refine o_if_eq (tgt := 118) dL_texts_109 (by decide) ⟨by omega, by omega⟩ (fun c => absurd c (by omega)) (fun c => ?_)
    refine o_ldcSW (num := 64) (tx := "r") dL_texts_112 t_q319 ?_
    refine o_goto (tgt := 121) dL_texts_115 (by decide) ?_
    exact J _ (by rw [if_pos q2]; exact t_c64)
  · rw [q1]
    refine o_if_eq (tgt := 118) dL_texts_109 (by decide) ⟨by omega, by omega⟩ (fun c => ?_) (fun c => absurd rfl c)
    refine o_ldcSW (num := 60) (tx := "") dL_texts_118 t_q293 ?_
    exact J _ (by rw [if_neg q2]; exact t_c60)
set_option maxRecDepth 100000 in
set_option maxHeartbeats 4000000 in
theorem tt_mid (hl : l.stackTraces = false) (hx : o_xd g M P S T) (hwf : o_wf M) (hk : (k : Int) < M 0 1) {b : Nat} (hH : t_H N g h) (hB : t_B N h b X) (hN : N ≤ 690000) (hX : X.length ≤ 98) (hr : r < b ∨ 1000000 ≤ r) (hmc : 100 ≤ mc) (hms : 2500 ≤ ms)
    (K : ∀ (g' : Nat → Nat → Int) (h' : Nat → o_C) (N' mc9 ms9 : Nat), o_xd g' M P S T → t_H N' g' h' → t_B N' h' b (X ++ (if 0 < M 5 k then [115] ++ (t_num (M 5 k - 1) ++ ([101] ++ t_num (M 6 k))) else [])) → N ≤ N' → N' ≤ N + 4 → mc ≤ mc9 + 20 → ms ≤ ms9 + 1700 → o_V l mL_texts (d + 12) t_al (y_x (.int (o_I 1)) M P S (t_out T (t_all M (M 0 1).toNat))) 104 [(0, .ref 0), (1, .ref r), (2, .int (o_I (k : Int)))] [.ref b] N' h' mc9 ms9) : o_V l mL_texts (d + 12) t_al (y_x (.int (o_I 1)) M P S (t_out T (t_all M (M 0 1).toNat))) 49 [(0, .ref 0), (1, .ref r), (2, .int (o_I (k : Int)))] [.ref b] N h mc ms := by
  have b9 := hwf.1.2.1.2.2.2.2 k hk
  have b8 := hwf.2.1
  have b7 := hwf.1.2.1.2.1
  have hb0 := hB.1
  have hb1 := hB.2.1
  refine o_aload_n dL_texts_49 rfl ?_
  refine o_iload_n dL_texts_50 rfl ?_
  refine tx_v [.int (o_I (k : Int))] (cv_isLeased hl 0 g M P S T hx hwf k (by omega)) hH y_int (fun _ z => z.elim) (fun _ z _ => z.elim) (Or.inl fun _ z => z) dL_texts_51 ml_L_63 yw_X11_isLeased rfl (by decide) rfl (by omega) (by omega) (by omega) rfl (Nat.le_of_ble_eq_true rfl) (fun g1 h1 hx1 hH1 he1 => ?_)
  have hB1 : t_B N h1 b X := hB.mv (Nat.le_refl _) (he1 _ (by omega)) (he1 _ (by omega))
  have J : ∀ (g2 : Nat → Nat → Int) (h2 : Nat → o_C) (N2 x mc9 ms9 : Nat), o_xd g2 M P S T → t_H N2 g2 h2 → t_B N2 h2 b X → t_S N2 h2 x (if 0 < M 5 k then [115] ++ (t_num (M 5 k - 1) ++ ([101] ++ t_num (M 6 k))) else []) → N ≤ N2 → N2 ≤ N + 4 → mc ≤ mc9 + 19 → ms ≤ ms9 + 1480 → o_V l mL_texts (d + 12) t_al (y_x (.int (o_I 1)) M P S (t_out T (t_all M (M 0 1).toNat))) 101 [(0, .ref 0), (1, .ref r), (2, .int (o_I (k : Int)))] [.ref x, .ref b] N2 h2 mc9 ms9 := fun g2 h2 N2 x mc9 ms9 hx2 hH2 hB2 hSx n1 n2 a1 a2 => by
    have hI : (if 0 < M 5 k then [115] ++ (t_num (M 5 k - 1) ++ ([101] ++ t_num (M 6 k))) else []).length ≤ 10 := by
      have a2 := t_num_l1 (z := M 5 k - 1) (by omega)
      have a3 := t_num_l7 (z := M 6 k) (by omega)
      split
      · rw [List.length_append, List.length_append, List.length_append]
        show 1 + (_ + (1 + _)) ≤ 10
        omega
      · simp
    refine tx_app hl hH2 hB2 hSx dL_texts_101 ml_L_298 (by omega) ⟨by omega, by omega⟩ (fun q hq z hz => by simp only [List.mem_cons, List.not_mem_nil, or_false] at hq; rcases hq with rfl | rfl | rfl <;> (cases hz; try omega)) (fun v hv => by cases hv) (Nat.le_of_ble_eq_true rfl) (by omega) (by omega) (by omega) (fun h3 hH3 hB3 he3 => ?_)
    exact K g2 h3 N2 _ _ hx2 hH3 hB3 n1 n2 (by omega) (by omega)
  rcases o_bcs (0 < M 5 k) with ⟨q1, q2⟩ | ⟨q1, q2⟩
  · rw [q1]
    refine o_if_eq (tgt := 98) dL_texts_54 (by decide) ⟨by omega, by omega⟩ (fun c => absurd c (by omega)) (fun c => ?_)
    refine tx_new hl hH1 (by omega) (fun k h1 h2 => ⟨by omega, h2⟩) dL_texts_57 t_w295 dL_texts_60 dL_texts_61 ml_L_297 (fun q hq z hz => by simp only [List.mem_cons, List.not_mem_nil, or_false] at hq; rcases hq with rfl | rfl | rfl <;> (cases hz; try omega)) (fun v hv z hz => by rcases List.mem_singleton.mp hv with rfl; cases hz; omega) (Nat.le_of_ble_eq_true rfl) (by omega) (by omega) (by omega) (fun h2 hH2 hC2 he2 => ?_)
    have hB2 : t_B (N + 2) h2 b X := hB1.mv (by omega) (he2 _ (by omega)) (he2 _ (by omega))
    refine o_ldcSW (num := 62) (tx := "s") dL_texts_64 t_q307 ?_
    refine tx_app hl hH2 hC2 t_c62 dL_texts_67 ml_L_298 (by simp) ⟨by omega, by omega⟩ (fun q hq z hz => by simp only [List.mem_cons, List.not_mem_nil, or_false] at hq; rcases hq with rfl | rfl | rfl <;> (cases hz; try omega)) (fun v hv z hz => by rcases List.mem_singleton.mp hv with rfl; cases hz; omega) (Nat.le_of_ble_eq_true rfl) (by omega) (by omega) (by omega) (fun h3 hH3 hC3 he3 => ?_)
    have hB3 : t_B (N + 2) h3 b X := hB2.mv (by omega) (he3 _ (by omega) (by omega)) (he3 _ (by omega) (by omega))
    refine o_aload_n dL_texts_70 rfl ?_
    refine o_iload_n dL_texts_71 rfl ?_
    refine tx_v [.int (o_I (k : Int))] (cv_lessee hl 0 g1 M P S T hx1 hwf k (by omega) q2) hH3 y_int (fun _ z => z.elim) (fun _ z _ => z.elim) (Or.inl fun _ z => z) dL_texts_72 ml_L_67 yw_X11_lessee rfl (by decide) rfl (by omega) (by omega) (by omega) rfl (Nat.le_of_ble_eq_true rfl) (fun g4 h4 hx4 hH4 he4 => ?_)
    have hB4 : t_B (N + 2) h4 b X := hB3.mv (by omega) (he4 _ (by omega)) (he4 _ (by omega))
    have hC4 : t_B (N + 2) h4 N ([] ++ [115]) := hC3.mv (by omega) (he4 _ (by omega)) (he4 _ (by omega))
    refine tx_num hl hH4 hC4 ⟨by omega, by omega⟩ dL_texts_75 ml_L_304 (by simp) ⟨by omega, by omega⟩ (fun q hq z hz => by simp only [List.mem_cons, List.not_mem_nil, or_false] at hq; rcases hq with rfl | rfl | rfl <;> (cases hz; try omega)) (fun v hv z hz => by rcases List.mem_singleton.mp hv with rfl; cases hz; omega) (Nat.le_of_ble_eq_true rfl) (by omega) (by omega) (by omega) (fun h5 hH5 hC5 he5 => ?_)
    have hB5 : t_B (N + 2) h5 b X := hB4.mv (by omega) (he5 _ (by omega) (by omega)) (he5 _ (by omega) (by omega))
    have a2 := t_num_l1 (z := M 5 k - 1) (by omega)
    have a3 := t_num_l7 (z := M 6 k) (by omega)
    refine o_ldcSW (num := 63) (tx := "e") dL_texts_78 t_q309 ?_
    refine tx_app hl hH5 hC5 t_c63 dL_texts_81 ml_L_298 (by simp; omega) ⟨by omega, by omega⟩ (fun q hq z hz => by simp only [List.mem_cons, List.not_mem_nil, or_false] at hq; rcases hq with rfl | rfl | rfl <;> (cases hz; try omega)) (fun v hv z hz => by rcases List.mem_singleton.mp hv with rfl; cases hz; omega) (Nat.le_of_ble_eq_true rfl) (by omega) (by omega) (by omega) (fun h6 hH6 hC6 he6 => ?_)
    have hB6 : t_B (N + 2) h6 b X := hB5.mv (by omega) (he6 _ (by omega) (by omega)) (he6 _ (by omega) (by omega))
    refine o_aload_n dL_texts_84 rfl ?_
    refine o_iload_n dL_texts_85 rfl ?_
    refine tx_v [.int (o_I (k : Int))] (cv_endHour hl 0 g4 M P S T hx4 hwf k (by omega) q2) hH6 y_int (fun _ z => z.elim) (fun _ z _ => z.elim) (Or.inl fun _ z => z) dL_texts_86 ml_L_70 yw_X11_endHour rfl (by decide) rfl (by omega) (by omega) (by omega) rfl (Nat.le_of_ble_eq_true rfl) (fun g7 h7 hx7 hH7 he7 => ?_)
    have hB7 : t_B (N + 2) h7 b X := hB6.mv (by omega) (he7 _ (by omega)) (he7 _ (by omega))
    have hC7 : t_B (N + 2) h7 N ([] ++ [115] ++ t_num (M 5 k - 1) ++ [101]) := hC6.mv (by omega) (he7 _ (by omega)) (he7 _ (by omega))
    refine tx_num hl hH7 hC7 ⟨by omega, by omega⟩ dL_texts_89 ml_L_304 (by simp; omega) ⟨by omega, by omega⟩ (fun q hq z hz => by simp only [List.mem_cons, List.not_mem_nil, or_false] at hq; rcases hq with rfl | rfl | rfl <;> (cases hz; try omega)) (fun v hv z hz => by rcases List.mem_singleton.mp hv with rfl; cases hz; omega) (Nat.le_of_ble_eq_true rfl) (by omega) (by omega) (by omega) (fun h8 hH8 hC8 he8 => ?_)
    have hB8 : t_B (N + 2) h8 b X := hB7.mv (by omega) (he8 _ (by omega) (by omega)) (he8 _ (by omega) (by omega))
    refine tx_str hl hH8 hC8 (by omega) dL_texts_92 ml_L_311 (by simp; omega) (fun k h1 h2 => ⟨by omega, h2⟩) (fun q hq z hz => by simp only [List.mem_cons, List.not_mem_nil, or_false] at hq; rcases hq with rfl | rfl | rfl <;> (cases hz; try omega)) (fun v hv z hz => by rcases List.mem_singleton.mp hv with rfl; cases hz; omega) (Nat.le_of_ble_eq_true rfl) (by omega) (by omega) (by omega) (fun h9 hH9 hS9 he9 => ?_)
    have hB9 : t_B (N + 2 + 2) h9 b X := hB8.mv (by omega) (he9 _ (by omega)) (he9 _ (by omega))
    refine o_goto (tgt := 101) dL_texts_95 (by decide) ?_
    exact J g7 h9 (N + 2 + 2) (N + 2) _ _ hx7 hH9 hB9 (by rw [if_pos q2]; simpa only [List.nil_append, List.append_assoc] using hS9) (by omega) (by omega) (by omega) (by omega)
  · rw [q1]
    refine o_if_eq (tgt := 98) dL_texts_54 (by decide) ⟨by omega, by omega⟩ (fun c => ?_) (fun c => absurd rfl c)
    refine o_ldcSW (num := 60) (tx := "") dL_texts_98 t_q293 ?_
    exact J g1 h1 N (2000000 + 60) _ _ hx1 hH1 hB1 (by rw [if_neg q2]; exact t_c60) (by omega) (by omega) (by omega) (by omega)
set_option maxRecDepth 100000 in
set_option maxHeartbeats 4000000 in
theorem tt_one (hl : l.stackTraces = false) (hx : o_xd g M P S T) (hwf : o_wf M) (hk : (k : Int) < M 0 1) (hH : t_H N g h) (hS : t_S N h r (t_all M k)) (hN : N ≤ 600000) (hmc : 200 ≤ mc) (hms : 4000 ≤ ms)
    (K : ∀ (g' : Nat → Nat → Int) (h' : Nat → o_C) (N' r' mc9 ms9 : Nat), o_xd g' M P S T → t_H N' g' h' → t_S N' h' r' (t_all M (k + 1)) → N ≤ N' → N' ≤ N + 8 → mc ≤ mc9 + 70 → ms ≤ ms9 + 3200 → o_V l mL_texts (d + 12) t_al (y_x (.int (o_I 1)) M P S (t_out T (t_all M (M 0 1).toNat))) 6 [(0, .ref 0), (1, .ref r'), (2, .int (o_I ((k + 1 : Nat) : Int)))] [] N' h' mc9 ms9) : o_V l mL_texts (d + 12) t_al (y_x (.int (o_I 1)) M P S (t_out T (t_all M (M 0 1).toNat))) 14 [(0, .ref 0), (1, .ref r), (2, .int (o_I (k : Int)))] [] N h mc ms := by
  have b9 := hwf.1.2.1.2.2.2.2 k hk
  have b8 := hwf.2.1
  have b7 := hwf.1.2.1.2.1
  have hA := t_all_l hwf k (by omega)
  have hr : r < N ∨ 1000000 ≤ r := by
    rcases hS.2.2.2 with ⟨num, z, -⟩ | ⟨z, -⟩
    · omega
    · omega
  have hn1 := hH.2.2.1
  refine tx_new hl hH (by omega) (fun k h1 h2 => ⟨by omega, h2⟩) dL_texts_14 t_w295 dL_texts_17 dL_texts_18 ml_L_297 (fun q hq z hz => by simp only [List.mem_cons, List.not_mem_nil, or_false] at hq; rcases hq with rfl | rfl | rfl <;> (cases hz; try omega)) (fun v hv => by cases hv) (Nat.le_of_ble_eq_true rfl) (by omega) (by omega) (by omega) (fun h1 hH1 hB1 he1 => ?_)
  have hS1 : t_S (N + 2) h1 r (t_all M k) := hS.mv (by omega) (fun q hq q2 => he1 q q2)
  refine o_aload_n dL_texts_21 rfl ?_
  refine tx_app hl hH1 hB1 hS1 dL_texts_22 ml_L_298 (by simp; omega) ⟨by omega, by omega⟩ (fun q hq z hz => by simp only [List.mem_cons, List.not_mem_nil, or_false] at hq; rcases hq with rfl | rfl | rfl <;> (cases hz; try omega)) (fun v hv => by cases hv) (Nat.le_of_ble_eq_true rfl) (by omega) (by omega) (by omega) (fun h2 hH2 hB2 he2 => ?_)
  rw [List.nil_append] at hB2
  refine o_iload_n dL_texts_25 rfl ?_
  have J : ∀ x : Nat, t_S (N + 2) h2 x (if 0 < k then [32] else []) → o_V l mL_texts (d + 12) t_al (y_x (.int (o_I 1)) M P S (t_out T (t_all M (M 0 1).toNat))) 38 [(0, .ref 0), (1, .ref r), (2, .int (o_I (k : Int)))] [.ref x, .ref N] (N + 2) h2 (mc - 3) (ms - 240) := fun x hSx => by
    refine tx_app hl hH2 hB2 hSx dL_texts_38 ml_L_298 (by split <;> simp <;> omega) ⟨by omega, by omega⟩ (fun q hq z hz => by simp only [List.mem_cons, List.not_mem_nil, or_false] at hq; rcases hq with rfl | rfl | rfl <;> (cases hz; try omega)) (fun v hv => by cases hv) (Nat.le_of_ble_eq_true rfl) (by omega) (by omega) (by omega) (fun h3 hH3 hB3 he3 => ?_)
    have a1 := t_num_l1 (z := M 4 k) (by omega)
    have a4 : ((if 0 < k then [32] else []) : List Int).length ≤ 1 := by split <;> simp
    refine o_aload_n dL_texts_41 rfl ?_
    refine o_iload_n dL_texts_42 rfl ?_
    refine tx_v [.int (o_I (k : Int))] (cv_level hl 0 g M P S T hx hwf k (by omega)) hH3 y_int (fun _ z => z.elim) (fun _ z _ => z.elim) (Or.inl fun _ z => z) dL_texts_43 ml_L_60 yw_X11_level rfl (by decide) rfl (by omega) (by omega) (by omega) rfl (Nat.le_of_ble_eq_true rfl) (fun g4 h4 hx4 hH4 he4 => ?_)
    have hB4 := hB3.mv (h' := h4) (Nat.le_refl _) (he4 _ (by omega)) (he4 _ (by omega))
    refine tx_num hl hH4 hB4 ⟨by omega, by omega⟩ dL_texts_46 ml_L_304 (by rw [List.length_append]; omega) ⟨by omega, by omega⟩ (fun q hq z hz => by simp only [List.mem_cons, List.not_mem_nil, or_false] at hq; rcases hq with rfl | rfl | rfl <;> (cases hz; try omega)) (fun v hv => by cases hv) (Nat.le_of_ble_eq_true rfl) (by omega) (by omega) (by omega) (fun h5 hH5 hB5 he5 => ?_)
    refine tt_mid (b := N) hl hx4 hwf hk hH5 hB5 (by omega) (by rw [List.length_append, List.length_append]; omega) hr (by omega) (by omega) (fun g6 h6 N6 mc6 ms6 hx6 hH6 hB6 n1 n2 a5 a6 => ?_)
    have hI : ((if 0 < M 5 k then [115] ++ (t_num (M 5 k - 1) ++ ([101] ++ t_num (M 6 k))) else []) : List Int).length ≤ 10 := by
      have a2 := t_num_l1 (z := M 5 k - 1) (by omega)
      have a3 := t_num_l7 (z := M 6 k) (by omega)
      split
      · rw [List.length_append, List.length_append, List.length_append]
        show 1 + (_ + (1 + _)) ≤ 10
        omega
      · simp
    refine tt_end (b := N) hl hx6 hwf hk hH6 hB6 (by omega) (by rw [List.length_append, List.length_append, List.length_append]; omega) hr (by omega) (by omega) (fun g7 h7 mc7 ms7 hx7 hH7 hS7 a7 a8 => ?_)
    refine K g7 h7 (N6 + 2) N6 mc7 ms7 hx7 hH7 ?_ (by omega) (by omega) (by omega) (by omega)
    show t_S (N6 + 2) h7 N6 (t_all M k ++ t_lamp M k)
    unfold t_lamp
    simpa only [List.append_assoc] using hS7
  by_cases c0 : 0 < k
  · refine o_if_ne (tgt := 35) dL_texts_26 (by decide) ⟨by omega, by omega⟩ (fun c => ?_) (fun c => absurd c (by omega))
    refine o_ldcSW (num := 61) (tx := " ") dL_texts_35 t_q302 ?_
    exact o_mono (by omega) (by omega) (J _ (by rw [if_pos c0]; exact t_c61))
  · refine o_if_ne (tgt := 35) dL_texts_26 (by decide) ⟨by omega, by omega⟩ (fun c => absurd c (by omega)) (fun c => ?_)
    refine o_ldcSW (num := 60) (tx := "") dL_texts_29 t_q293 ?_
    refine o_goto (tgt := 38) dL_texts_32 (by decide) ?_
    exact o_mono (by omega) (by omega) (J _ (by rw [if_neg c0]; exact t_c60))
end TT
set_option maxRecDepth 100000 in
set_option maxHeartbeats 4000000 in
/-- the law's texts -/
theorem ct_L_texts {l : Launch} (hl : l.stackTraces = false) (d : Nat) (g M : Nat → Nat → Int) (P : List (Nat → Nat → Int)) (S : Option (Nat → Nat → Int)) (T : Nat → Nat → Int) (hx : o_xd g M P S T) (hwf : o_wf M) : o_Ct l yL_texts wL_texts (d + 12) t_al [.ref 0] o_N (o_mem g) 1000 48000 (y_x (.int (o_I 1)) M P S (t_out T (t_all M (M 0 1).toNat))) := by
  refine o_Ct.ofV hl mL_texts (by decide +kernel) rfl rfl rfl (Nat.le_of_ble_eq_true rfl) ?_
  have b7 := hwf.1.2.1
  have b71 := b7.1
  have b72 := b7.2.1
  refine o_ldcSW (num := 60) (tx := "") dL_texts_0 t_q293 ?_
  refine o_astore_n dL_texts_3 (by decide) ?_
  refine o_iconst dL_texts_4 ?_
  refine o_istore_n dL_texts_5 (by decide) ?_
  have key := o_lp (fun k => ∀ (g : Nat → Nat → Int) (h : Nat → o_C) (N r mc ms : Nat), o_xd g M P S T → t_H N g h → t_S N h r (t_all M k) → N ≤ 192 + 8 * k → 70 * ((M 0 1).toNat - k) + 420 ≤ mc → 3200 * ((M 0 1).toNat - k) + 20000 ≤ ms → o_V l mL_texts (d + 12) t_al (y_x (.int (o_I 1)) M P S (t_out T (t_all M (M 0 1).toNat))) 6 [(0, .ref 0), (1, .ref r), (2, .int (o_I (k : Int)))] [] N h mc ms) (M 0 1).toNat (fun k hk ih g h N r mc ms hx hH hS hN h1 h2 => by
    have hb7 := b7.1
    have hb8 := b7.2.1
    refine o_iload_n dL_texts_6 rfl ?_
    refine o_aload_n dL_texts_7 rfl ?_
    refine tx_v [] (cv_lampCount hl 0 g M P S T hx hwf) hH y_int (fun _ z => z.elim) (fun _ z _ => z.elim) (Or.inl fun _ z => z) dL_texts_8 ml_L_171 yw_X11_lampCount rfl (by decide) rfl (by omega) (by omega) (by omega) rfl (Nat.le_of_ble_eq_true rfl) (fun g1 h1 hx1 hH1 he1 => ?_)
    have hS1 : t_S N h1 r (t_all M k) := hS.mv (Nat.le_refl _) (fun q hq _ => he1 q (by
      have := hS.1
      rcases hq with rfl | rfl
      · exact this
      · unfold t_w; split <;> omega))
    refine o_icmp_ge (tgt := 134) dL_texts_11 (by decide) ⟨by omega, by omega⟩ ⟨by omega, by omega⟩ (fun c_11 => ?_) (fun c_11 => ?_)
    · have ek : k = (M 0 1).toNat := by omega
      subst ek
      have hr : r ≠ 191 := by have := hS.1; omega
      refine o_aload_n dL_texts_134 rfl ?_
      refine o_aload_n dL_texts_135 rfl ?_
      refine tx_v [] (o_Ct.wk (ct_X11_writeLamps hl 0 g1 M P S T hx1 hwf) (x_y rfl)) hH1 y_int (fun k z => by rcases z with z | z <;> omega) (fun k z z2 => ⟨by rcases z with z | z <;> omega, by omega⟩) (Or.inr ⟨(fun q hq z hz => by simp only [List.mem_cons, List.not_mem_nil, or_false] at hq; rcases hq with rfl | rfl | rfl <;> (cases hz; try omega)), (fun v hv z hz => by rcases List.mem_singleton.mp hv with rfl; cases hz; omega)⟩) dL_texts_136 ml_L_321 yw_X11_writeLamps rfl (by decide) rfl (by omega) (by omega) (by omega) rfl (Nat.le_of_ble_eq_true rfl) (fun g2 h2 hx2 hH2 he2 => ?_)
      have hS2 := hS1.mv (h' := h2) (Nat.le_refl _) (fun q hq _ => he2 q (by
        have := hS.1
        rcases hq with rfl | rfl
        · exact this
        · unfold t_w; split <;> omega))
      refine o_aload_n dL_texts_139 rfl ?_
      have hL : (t_out T (t_all M (M 0 1).toNat)) 0 1 = ((t_all M (M 0 1).toNat).length : Int) := by unfold t_out; rw [if_pos ⟨rfl, rfl⟩]
      have hL2 : ∀ j, j < (t_all M (M 0 1).toNat).length → (t_out T (t_all M (M 0 1).toNat)) 2 j = (t_all M (M 0 1).toNat).getD j 0 := fun j _ => by unfold t_out; rw [if_neg (by omega), if_pos rfl]
      refine o_callS [.ref 0, .int (o_I ((t_all M (M 0 1).toNat).length : Int)), .ref r] (rest := []) (ct_L_spells hl 0 N g2 M P S (t_out T (t_all M (M 0 1).toNat)) h2 r _ hx2 hwf hH2 hS2 hL hL2) dL_texts_140 ml_L_324 ys_L_spells rfl (by decide) (by omega) (by omega) (by omega) rfl (Nat.le_of_ble_eq_true rfl) (fun _ z => z.elim) (fun _ z => z.elim) (Or.inl fun _ z => z) (fun v9 n9 h9 q9 => ?_) (fun E n9 h9 q9 => by cases q9.1)
      obtain ⟨w1, rfl, g3, hx3, hH3, he3⟩ := q9
      cases w1
      refine o_cut (n := 192) (h' := o_mem g3) hH3.2.2.1 hH3.1 ?_
      refine o_ret1 dL_texts_143 t_r1 ?_
      exact ⟨rfl, ⟨g3, rfl, hx3⟩, rfl⟩
    · refine tt_one hl hx1 hwf (by omega) hH1 hS1 (by omega) (by omega) (by omega) (fun g2 h2 N2 r2 mc9 ms9 hx2 hH2 hS2 n1 n2 a1 a2 => ?_)
      exact ih (by omega) g2 h2 N2 r2 mc9 ms9 hx2 hH2 hS2 (by omega) (by omega) (by omega))
  exact o_loc [(0, .ref 0), (1, .ref (2000000 + 60)), (2, .int (o_I ((0 : Nat) : Int)))] rfl (key 0 (Nat.zero_le _) g (o_mem g) 192 _ _ _ hx (t_H0 g) t_c60 (by omega) (by omega) (by omega))

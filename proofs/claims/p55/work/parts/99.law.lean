/-! the office that is drawn, and the law -/
abbrev mL_law : o_M := (RL, cL_law, 2, some .boolean, [], "law")
def d_al : Nat → Prop := fun k => k < 1000000
theorem w_in0 : w_in 0 x_M0 [] none x_T0 := ⟨⟨x_wf0, by decide⟩, fun B hB => absurd hB List.not_mem_nil, (fun B hB => by cases hB), x_tk0, ⟨by decide, by decide⟩, fun j hj => absurd hj (by show ¬ (j : Int) < 0; omega)⟩
theorem wr_oil (M : Nat → Nat → Int) (v : Int) : 0 ≤ r_oil M v ∧ r_oil M v ≤ 4 := by unfold r_oil; (repeat' split) <;> omega
theorem wr_lease (M : Nat → Nat → Int) (s x t : Int) : 0 ≤ r_lease M s x t ∧ r_lease M s x t ≤ 4 := by unfold r_lease; (repeat' split) <;> omega
theorem wr_req (M : Nat → Nat → Int) (x t : Int) : 0 ≤ r_req M x t ∧ r_req M x t ≤ 4 := by unfold r_req; (repeat' split) <;> omega
theorem wr_unl (M : Nat → Nat → Int) (x : Int) : 0 ≤ r_unl M x ∧ r_unl M x ≤ 4 := by unfold r_unl; (repeat' split) <;> omega
theorem wr_wait (t : Int) : 0 ≤ r_wait t ∧ r_wait t ≤ 4 := by unfold r_wait; split <;> omega
theorem d_z {k : Int} (h : 0 ≤ k ∧ k ≤ 4) (h0 : k ≠ 0) (h1 : k ≠ 1) : ([-1, -2, -3, -4] : List Int).getD (k - 1).toNat 0 ≠ -1 ∧ ([-1, -2] : List Int).getD (k - 1).toNat 0 ≠ -1 ∧ ([-1] : List Int).getD (k - 1).toNat 0 ≠ -1 := by
  rcases (by omega : k = 2 ∨ k = 3 ∨ k = 4) with rfl | rfl | rfl <;> decide
def d_I (sh lm n : Nat) (g M : Nat → Nat → Int) (P : List (Nat → Nat → Int)) (T : Nat → Nat → Int) (h : Nat → o_C) : Prop := o_xd g M P none T ∧ w_in n M P none T ∧ t_H 192 g h ∧ e_ok M ∧ M 0 0 = sh ∧ M 0 1 = lm
def d_post : o_P := fun o n' h' => o = .inl (some (.ref 0)) ∧ n' = 192 ∧ ∃ (g M : Nat → Nat → Int) (P : List (Nat → Nat → Int)) (T : Nat → Nat → Int), t_H 192 g h' ∧ o_xd g M P none T ∧ w_in 40 M P none T ∧ e_ok M ∧ 1 ≤ M 0 0 ∧ 2 ≤ M 0 1
theorem w_in.more {n n' : Nat} {M T : Nat → Nat → Int} {P : List (Nat → Nat → Int)} {S : Option (Nat → Nat → Int)} (h : w_in n M P S T) (hn : n ≤ n') : w_in n' M P S T := by
  induction n' with
  | zero => rw [show n = 0 by omega] at h; exact h
  | succ n' ih =>
    rcases Nat.lt_or_ge n (n' + 1) with q | q
    · exact (ih (by omega)).s
    · rw [show n = n' + 1 by omega] at h; exact h
theorem d_lease {M : Nat → Nat → Int} (s x : Nat) (t : Int) (he : e_ok M) : e_ok (m_lease M s x t) ∧ m_lease M s x t 0 0 = M 0 0 ∧ m_lease M s x t 0 1 = M 0 1 := ⟨he.sm (e_lease M s x t), by simp [m_lease, m_pay, o_e], by simp [m_lease, m_pay, o_e]⟩
theorem d_req {M : Nat → Nat → Int} (x t : Int) (he : e_ok M) : e_ok (m_req M x t) ∧ m_req M x t 0 0 = M 0 0 ∧ m_req M x t 0 1 = M 0 1 := ⟨he.sm (e_req M x t), by simp [m_req, o_e], by simp [m_req, o_e]⟩
theorem d_oil {M : Nat → Nat → Int} (u : Int) (he : e_ok M) : e_ok (m_oil M u) ∧ m_oil M u 0 0 = M 0 0 ∧ m_oil M u 0 1 = M 0 1 := ⟨he.sm (e_oil M u), by simp [m_oil, o_e], by simp [m_oil, o_e]⟩
theorem d_free {M : Nat → Nat → Int} (hwf : o_wf M) (x : Nat) (hx : (x : Int) < M 0 1) (he : e_ok M) : e_ok (m_free M x) ∧ m_free M x 0 0 = M 0 0 ∧ m_free M x 0 1 = M 0 1 := ⟨he.sm (e_free M x), (ke_free hwf.1 x hx).2.1, (ke_free hwf.1 x hx).2.2.1⟩
theorem d_pass {M : Nat → Nat → Int} (hwf : o_wf M) (n : Nat) (hh : M 0 3 + n ≤ 1000000) (he : e_ok M) : e_ok (m_pass M n) ∧ m_pass M n 0 0 = M 0 0 ∧ m_pass M n 0 1 = M 0 1 := ⟨e_pass he n, (ks_pass hwf n hh).1, (ks_pass hwf n hh).2⟩
section DR
variable {l : Launch} {d mc ms : Nat}
set_option maxRecDepth 100000 in
set_option maxHeartbeats 4000000 in
theorem dr_lease (hl : l.stackTraces = false) {sh lm n k : Nat} {g M T : Nat → Nat → Int} {P : List (Nat → Nat → Int)} {h : Nat → o_C} (hsh : 1 ≤ sh ∧ sh ≤ 5) (hlm : 2 ≤ lm ∧ lm ≤ 8) (hn : n ≤ 100) {D x : Int} (hD : 0 ≤ D ∧ D ≤ 2147483647) (hx9 : 0 ≤ x ∧ x < lm) (hI : d_I sh lm n g M P T h) (hmc : 1 ≤ mc) (hms : 6 ≤ ms) (J : ∀ (z : Int) (g' M' : Nat → Nat → Int) (P' : List (Nat → Nat → Int)) (T' : Nat → Nat → Int) (h' : Nat → o_C) (mc9 ms9 : Nat), d_I sh lm (n + 1) g' M' P' T' h' → o_R z → z ≠ -1 → mc ≤ mc9 + 1 → ms ≤ ms9 + 6 → o_V l mL_drawn (d + 10) d_al d_post 305 [(0, .ref 5000000), (1, .ref 0), (3, .int (o_I (sh : Int))), (4, .int (o_I (lm : Int))), (6, .int (o_I (k : Int))), (7, .int (o_I D)), (8, .int (o_I x))] [.int (o_I z)] 192 h' mc9 ms9) : o_V l mL_drawn (d + 10) d_al d_post 180 [(0, .ref 5000000), (1, .ref 0), (3, .int (o_I (sh : Int))), (4, .int (o_I (lm : Int))), (6, .int (o_I (k : Int))), (7, .int (o_I D)), (8, .int (o_I x))] [] 192 h mc ms := by
  obtain ⟨hx, hw, hH, he, h00, h01⟩ := hI
  have hh := w_hh hw.1 (by omega)
  refine o_aload_n dL_drawn_180 rfl ?_
  refine o_iload dL_drawn_181 rfl ?_
  refine o_bipush dL_drawn_183 (by decide) ?_
  refine y_iushr (by omega) (by omega) dL_drawn_185 (fun w w0 w1 => ?_)
  refine o_iload_n dL_drawn_186 rfl ?_
  refine o_irem dL_drawn_187 ⟨by omega, by omega⟩ ⟨by omega, by omega⟩ (by omega) (by omega) ?_
  refine o_iload dL_drawn_188 rfl ?_
  refine o_iconst dL_drawn_190 ?_
  refine o_iload dL_drawn_191 rfl ?_
  refine o_bipush dL_drawn_193 (by decide) ?_
  refine y_iushr (by omega) (by omega) dL_drawn_195 (fun v v0 v1 => ?_)
  refine o_iload dL_drawn_196 rfl ?_
  refine o_iconst dL_drawn_198 ?_
  refine o_irem dL_drawn_199 ⟨by omega, by omega⟩ ⟨by omega, by omega⟩ (by omega) (by omega) ?_
  have J9 : ∀ q : Int, (q = 24 ∨ q = 7) → o_V l mL_drawn (d + 10) d_al d_post 210 [(0, .ref 5000000), (1, .ref 0), (3, .int (o_I (sh : Int))), (4, .int (o_I (lm : Int))), (6, .int (o_I (k : Int))), (7, .int (o_I D)), (8, .int (o_I x))] [.int (o_I q), .int (o_I v), .int (o_I 1), .int (o_I x), .int (o_I (w % (sh : Int))), .ref 0] 192 h mc ms := fun q hq => by
    have hv9 : 0 ≤ v % q ∧ v % q < 24 := by
      rcases hq with rfl | rfl <;> omega
    have hw9 : 0 ≤ w % (sh : Int) ∧ w % (sh : Int) < sh := ⟨Int.emod_nonneg _ (by omega), Int.emod_lt_of_pos _ (by omega)⟩
    refine o_irem dL_drawn_210 ⟨by omega, by omega⟩ ⟨by omega, by omega⟩ (by omega) (by omega) ?_
    refine o_iadd dL_drawn_211 ?_
    refine u_q [.ref 0, .int (o_I (w % (sh : Int))), .int (o_I (x)), .int (o_I (1 + v % q))] (cu_lease hl 0 192 n g M P none T h hx hw (by omega) hH (w % (sh : Int)) ⟨by omega, by omega⟩ (x) ⟨by omega, by omega⟩ (1 + v % q) ⟨by omega, by omega⟩) dL_drawn_212 ml_L_156 ys_L_lease rfl (by decide) (by omega) (by omega) (by omega) rfl (Nat.le_of_ble_eq_true rfl) (fun z g2 M2 P2 T2 h2 u2 => ?_)
    refine o_goto (tgt := 305) dL_drawn_215 (by decide) ?_
    obtain ⟨ux, uw, uH, -, uz, -, ux9⟩ := u2
    have hr := wr_lease M (w % (sh : Int)) x (1 + v % q)
    rcases ux9 with ⟨k0, q0, -, rfl⟩ | ⟨k0, rfl, q0⟩
    · obtain ⟨v1, v2, v3⟩ := d_lease (w % (sh : Int)).toNat x.toNat (1 + v % q) he
      exact J z g2 _ P2 T2 h2 _ _ ⟨ux, uw, uH, v1, v2.trans h00, v3.trans h01⟩ ⟨by omega, by omega⟩ (by omega) (by omega) (by omega)
    · exact J z g2 _ P2 T2 h2 _ _ ⟨ux, uw, uH, he, h00, h01⟩ ⟨by omega, by omega⟩ (by rw [q0]; exact (d_z hr k0 (fun e => by unfold r_lease at e; rw [if_neg (fun e2 => by rcases e2 with e2 | e2 <;> exact e2 ⟨by omega, by omega⟩)] at e; (repeat' split at e) <;> omega)).1) (by omega) (by omega)
  refine o_if_ne (tgt := 208) dL_drawn_200 (by decide) ⟨by omega, by omega⟩ (fun c9 => ?_) (fun c9 => ?_)
  · refine o_bipush dL_drawn_208 (by decide) ?_
    exact J9 7 (Or.inr rfl)
  · refine o_bipush dL_drawn_203 (by decide) ?_
    refine o_goto (tgt := 210) dL_drawn_205 (by decide) ?_
    exact J9 24 (Or.inl rfl)
set_option maxRecDepth 100000 in
set_option maxHeartbeats 4000000 in
theorem dr_renew (hl : l.stackTraces = false) {sh lm n k : Nat} {g M T : Nat → Nat → Int} {P : List (Nat → Nat → Int)} {h : Nat → o_C} (hsh : 1 ≤ sh ∧ sh ≤ 5) (hlm : 2 ≤ lm ∧ lm ≤ 8) (hn : n ≤ 100) {D x : Int} (hD : 0 ≤ D ∧ D ≤ 2147483647) (hx9 : 0 ≤ x ∧ x < lm) (hI : d_I sh lm n g M P T h) (hmc : 1 ≤ mc) (hms : 6 ≤ ms) (J : ∀ (z : Int) (g' M' : Nat → Nat → Int) (P' : List (Nat → Nat → Int)) (T' : Nat → Nat → Int) (h' : Nat → o_C) (mc9 ms9 : Nat), d_I sh lm (n + 1) g' M' P' T' h' → o_R z → z ≠ -1 → mc ≤ mc9 + 1 → ms ≤ ms9 + 6 → o_V l mL_drawn (d + 10) d_al d_post 305 [(0, .ref 5000000), (1, .ref 0), (3, .int (o_I (sh : Int))), (4, .int (o_I (lm : Int))), (6, .int (o_I (k : Int))), (7, .int (o_I D)), (8, .int (o_I x))] [.int (o_I z)] 192 h' mc9 ms9) : o_V l mL_drawn (d + 10) d_al d_post 227 [(0, .ref 5000000), (1, .ref 0), (3, .int (o_I (sh : Int))), (4, .int (o_I (lm : Int))), (6, .int (o_I (k : Int))), (7, .int (o_I D)), (8, .int (o_I x))] [] 192 h mc ms := by
  obtain ⟨hx, hw, hH, he, h00, h01⟩ := hI
  have hh := w_hh hw.1 (by omega)
  refine o_aload_n dL_drawn_227 rfl ?_
  refine o_iload dL_drawn_228 rfl ?_
  refine o_iconst dL_drawn_230 ?_
  refine o_iload dL_drawn_231 rfl ?_
  refine o_bipush dL_drawn_233 (by decide) ?_
  refine y_iushr (by omega) (by omega) dL_drawn_235 (fun v v0 v1 => ?_)
  refine o_bipush dL_drawn_236 (by decide) ?_
  refine o_irem dL_drawn_238 ⟨by omega, by omega⟩ ⟨by omega, by omega⟩ (by omega) (by omega) ?_
  refine o_iadd dL_drawn_239 ?_
  refine u_q [.ref 0, .int (o_I (x)), .int (o_I (1 + v % 9))] (cu_renew hl 0 192 n g M P none T h hx hw (by omega) hH (x) ⟨by omega, by omega⟩ (1 + v % 9) ⟨by omega, by omega⟩) dL_drawn_240 ml_L_159 ys_L_renew rfl (by decide) (by omega) (by omega) (by omega) rfl (Nat.le_of_ble_eq_true rfl) (fun z g2 M2 P2 T2 h2 u2 => ?_)
  refine o_goto (tgt := 305) dL_drawn_243 (by decide) ?_
  obtain ⟨ux, uw, uH, -, uz, -, ux9⟩ := u2
  have hr := wr_req M x (1 + v % 9)
  rcases ux9 with ⟨k0, q0, -, rfl⟩ | ⟨k0, rfl, q0⟩
  · obtain ⟨v1, v2, v3⟩ := d_req x (1 + v % 9) he
    exact J z g2 _ P2 T2 h2 _ _ ⟨ux, uw, uH, v1, v2.trans h00, v3.trans h01⟩ ⟨by omega, by omega⟩ (by omega) (by omega) (by omega)
  · exact J z g2 _ P2 T2 h2 _ _ ⟨ux, uw, uH, he, h00, h01⟩ ⟨by omega, by omega⟩ (by rw [q0]; exact (d_z hr k0 (fun e => by unfold r_req at e; rw [if_neg (fun e2 => e2 ⟨by omega, by omega⟩)] at e; (repeat' split at e) <;> omega)).1) (by omega) (by omega)
set_option maxRecDepth 100000 in
set_option maxHeartbeats 4000000 in
theorem dr_pass (hl : l.stackTraces = false) {sh lm n k : Nat} {g M T : Nat → Nat → Int} {P : List (Nat → Nat → Int)} {h : Nat → o_C} (hsh : 1 ≤ sh ∧ sh ≤ 5) (hlm : 2 ≤ lm ∧ lm ≤ 8) (hn : n ≤ 100) {D x : Int} (hD : 0 ≤ D ∧ D ≤ 2147483647) (hx9 : 0 ≤ x ∧ x < lm) (hI : d_I sh lm n g M P T h) (hmc : 1 ≤ mc) (hms : 6 ≤ ms) (J : ∀ (z : Int) (g' M' : Nat → Nat → Int) (P' : List (Nat → Nat → Int)) (T' : Nat → Nat → Int) (h' : Nat → o_C) (mc9 ms9 : Nat), d_I sh lm (n + 1) g' M' P' T' h' → o_R z → z ≠ -1 → mc ≤ mc9 + 1 → ms ≤ ms9 + 6 → o_V l mL_drawn (d + 10) d_al d_post 305 [(0, .ref 5000000), (1, .ref 0), (3, .int (o_I (sh : Int))), (4, .int (o_I (lm : Int))), (6, .int (o_I (k : Int))), (7, .int (o_I D)), (8, .int (o_I x))] [.int (o_I z)] 192 h' mc9 ms9) : o_V l mL_drawn (d + 10) d_al d_post 256 [(0, .ref 5000000), (1, .ref 0), (3, .int (o_I (sh : Int))), (4, .int (o_I (lm : Int))), (6, .int (o_I (k : Int))), (7, .int (o_I D)), (8, .int (o_I x))] [] 192 h mc ms := by
  obtain ⟨hx, hw, hH, he, h00, h01⟩ := hI
  have hh := w_hh hw.1 (by omega)
  refine o_aload_n dL_drawn_256 rfl ?_
  refine o_iconst dL_drawn_257 ?_
  refine o_iload dL_drawn_258 rfl ?_
  refine o_bipush dL_drawn_260 (by decide) ?_
  refine y_iushr (by omega) (by omega) dL_drawn_262 (fun v v0 v1 => ?_)
  refine o_iconst dL_drawn_263 ?_
  refine o_irem dL_drawn_264 ⟨by omega, by omega⟩ ⟨by omega, by omega⟩ (by omega) (by omega) ?_
  refine o_iadd dL_drawn_265 ?_
  refine u_q [.ref 0, .int (o_I (1 + v % 4))] (cu_pass hl 0 192 n g M P none T h hx hw (by omega) hH (1 + v % 4) ⟨by omega, by omega⟩) dL_drawn_266 ml_L_163 ys_L_pass rfl (by decide) (by omega) (by omega) (by omega) rfl (Nat.le_of_ble_eq_true rfl) (fun z g2 M2 P2 T2 h2 u2 => ?_)
  refine o_goto (tgt := 305) dL_drawn_269 (by decide) ?_
  obtain ⟨ux, uw, uH, -, uz, -, ux9⟩ := u2
  have hr := wr_wait (1 + v % 4)
  rcases ux9 with ⟨k0, q0, -, rfl⟩ | ⟨k0, rfl, q0⟩
  · obtain ⟨v1, v2, v3⟩ := d_pass hw.1.1 (1 + v % 4).toNat (by omega) he
    exact J z g2 _ P2 T2 h2 _ _ ⟨ux, uw, uH, v1, v2.trans h00, v3.trans h01⟩ ⟨by omega, by omega⟩ (by omega) (by omega) (by omega)
  · exact J z g2 _ P2 T2 h2 _ _ ⟨ux, uw, uH, he, h00, h01⟩ ⟨by omega, by omega⟩ (by rw [q0]; exact (d_z hr k0 (fun e => by unfold r_wait at e; split at e <;> omega)).2.2) (by omega) (by omega)
set_option maxRecDepth 100000 in
set_option maxHeartbeats 4000000 in
theorem dr_giveUp (hl : l.stackTraces = false) {sh lm n k : Nat} {g M T : Nat → Nat → Int} {P : List (Nat → Nat → Int)} {h : Nat → o_C} (hsh : 1 ≤ sh ∧ sh ≤ 5) (hlm : 2 ≤ lm ∧ lm ≤ 8) (hn : n ≤ 100) {D x : Int} (hD : 0 ≤ D ∧ D ≤ 2147483647) (hx9 : 0 ≤ x ∧ x < lm) (hI : d_I sh lm n g M P T h) (hmc : 1 ≤ mc) (hms : 6 ≤ ms) (J : ∀ (z : Int) (g' M' : Nat → Nat → Int) (P' : List (Nat → Nat → Int)) (T' : Nat → Nat → Int) (h' : Nat → o_C) (mc9 ms9 : Nat), d_I sh lm (n + 1) g' M' P' T' h' → o_R z → z ≠ -1 → mc ≤ mc9 + 1 → ms ≤ ms9 + 6 → o_V l mL_drawn (d + 10) d_al d_post 305 [(0, .ref 5000000), (1, .ref 0), (3, .int (o_I (sh : Int))), (4, .int (o_I (lm : Int))), (6, .int (o_I (k : Int))), (7, .int (o_I D)), (8, .int (o_I x))] [.int (o_I z)] 192 h' mc9 ms9) : o_V l mL_drawn (d + 10) d_al d_post 282 [(0, .ref 5000000), (1, .ref 0), (3, .int (o_I (sh : Int))), (4, .int (o_I (lm : Int))), (6, .int (o_I (k : Int))), (7, .int (o_I D)), (8, .int (o_I x))] [] 192 h mc ms := by
  obtain ⟨hx, hw, hH, he, h00, h01⟩ := hI
  have hh := w_hh hw.1 (by omega)
  refine o_aload_n dL_drawn_282 rfl ?_
  refine o_iload dL_drawn_283 rfl ?_
  refine u_q [.ref 0, .int (o_I (x))] (cu_giveUp hl 0 192 n g M P none T h hx hw (by omega) hH (x) ⟨by omega, by omega⟩) dL_drawn_285 ml_L_166 ys_L_giveUp rfl (by decide) (by omega) (by omega) (by omega) rfl (Nat.le_of_ble_eq_true rfl) (fun z g2 M2 P2 T2 h2 u2 => ?_)
  refine o_goto (tgt := 305) dL_drawn_288 (by decide) ?_
  obtain ⟨ux, uw, uH, -, uz, -, ux9⟩ := u2
  have hr := wr_unl M x
  rcases ux9 with ⟨k0, q0, -, rfl⟩ | ⟨k0, rfl, q0⟩
  · obtain ⟨v1, v2, v3⟩ := d_free hw.1.1 x.toNat (by omega) he
    exact J z g2 _ P2 T2 h2 _ _ ⟨ux, uw, uH, v1, v2.trans h00, v3.trans h01⟩ ⟨by omega, by omega⟩ (by omega) (by omega) (by omega)
  · exact J z g2 _ P2 T2 h2 _ _ ⟨ux, uw, uH, he, h00, h01⟩ ⟨by omega, by omega⟩ (by rw [q0]; exact (d_z hr k0 (fun e => by unfold r_unl at e; rw [if_neg (fun e2 => e2 ⟨by omega, by omega⟩)] at e; split at e <;> omega)).2.1) (by omega) (by omega)
set_option maxRecDepth 100000 in
set_option maxHeartbeats 4000000 in
theorem dr_oil (hl : l.stackTraces = false) {sh lm n k : Nat} {g M T : Nat → Nat → Int} {P : List (Nat → Nat → Int)} {h : Nat → o_C} (hsh : 1 ≤ sh ∧ sh ≤ 5) (hlm : 2 ≤ lm ∧ lm ≤ 8) (hn : n ≤ 100) {D x : Int} (hD : 0 ≤ D ∧ D ≤ 2147483647) (hx9 : 0 ≤ x ∧ x < lm) (hI : d_I sh lm n g M P T h) (hmc : 1 ≤ mc) (hms : 6 ≤ ms) (J : ∀ (z : Int) (g' M' : Nat → Nat → Int) (P' : List (Nat → Nat → Int)) (T' : Nat → Nat → Int) (h' : Nat → o_C) (mc9 ms9 : Nat), d_I sh lm (n + 1) g' M' P' T' h' → o_R z → z ≠ -1 → mc ≤ mc9 + 1 → ms ≤ ms9 + 6 → o_V l mL_drawn (d + 10) d_al d_post 305 [(0, .ref 5000000), (1, .ref 0), (3, .int (o_I (sh : Int))), (4, .int (o_I (lm : Int))), (6, .int (o_I (k : Int))), (7, .int (o_I D)), (8, .int (o_I x))] [.int (o_I z)] 192 h' mc9 ms9) : o_V l mL_drawn (d + 10) d_al d_post 291 [(0, .ref 5000000), (1, .ref 0), (3, .int (o_I (sh : Int))), (4, .int (o_I (lm : Int))), (6, .int (o_I (k : Int))), (7, .int (o_I D)), (8, .int (o_I x))] [] 192 h mc ms := by
  obtain ⟨hx, hw, hH, he, h00, h01⟩ := hI
  have hh := w_hh hw.1 (by omega)
  refine o_aload_n dL_drawn_291 rfl ?_
  refine o_iconst dL_drawn_292 ?_
  refine o_iload dL_drawn_293 rfl ?_
  refine o_bipush dL_drawn_295 (by decide) ?_
  refine y_iushr (by omega) (by omega) dL_drawn_297 (fun v v0 v1 => ?_)
  refine o_bipush dL_drawn_298 (by decide) ?_
  refine o_irem dL_drawn_300 ⟨by omega, by omega⟩ ⟨by omega, by omega⟩ (by omega) (by omega) ?_
  refine o_iadd dL_drawn_301 ?_
  refine u_q [.ref 0, .int (o_I (1 + v % 30))] (cu_addOil hl 0 192 n g M P none T h hx hw (by omega) hH (1 + v % 30) ⟨by omega, by omega⟩) dL_drawn_302 ml_L_154 ys_L_addOil rfl (by decide) (by omega) (by omega) (by omega) rfl (Nat.le_of_ble_eq_true rfl) (fun z g2 M2 P2 T2 h2 u2 => ?_)
  obtain ⟨ux, uw, uH, -, uz, -, ux9⟩ := u2
  have hr := wr_oil M (1 + v % 30)
  rcases ux9 with ⟨k0, q0, -, rfl⟩ | ⟨k0, rfl, q0⟩
  · obtain ⟨v1, v2, v3⟩ := d_oil (1 + v % 30) he
    exact J z g2 _ P2 T2 h2 _ _ ⟨ux, uw, uH, v1, v2.trans h00, v3.trans h01⟩ ⟨by omega, by omega⟩ (by omega) (by omega) (by omega)
  · exact J z g2 _ P2 T2 h2 _ _ ⟨ux, uw, uH, he, h00, h01⟩ ⟨by omega, by omega⟩ (by rw [q0]; exact (d_z hr k0 (fun e => by unfold r_oil at e; rw [if_neg (by omega)] at e; split at e <;> omega)).2.1) (by omega) (by omega)
set_option maxRecDepth 100000 in
set_option maxHeartbeats 4000000 in
theorem dr_one (hl : l.stackTraces = false) {sh lm n k : Nat} {g M T : Nat → Nat → Int} {P : List (Nat → Nat → Int)} {h : Nat → o_C} (hsh : 1 ≤ sh ∧ sh ≤ 5) (hlm : 2 ≤ lm ∧ lm ≤ 8) (hn : n ≤ 100) {D x : Int} (hD : 0 ≤ D ∧ D ≤ 2147483647) (hx9 : 0 ≤ x ∧ x < lm) (hI : d_I sh lm n g M P T h) (hmc : 1 ≤ mc) (hms : 6 ≤ ms) (J : ∀ (z : Int) (g' M' : Nat → Nat → Int) (P' : List (Nat → Nat → Int)) (T' : Nat → Nat → Int) (h' : Nat → o_C) (mc9 ms9 : Nat), d_I sh lm (n + 1) g' M' P' T' h' → o_R z → z ≠ -1 → mc ≤ mc9 + 1 → ms ≤ ms9 + 6 → o_V l mL_drawn (d + 10) d_al d_post 305 [(0, .ref 5000000), (1, .ref 0), (3, .int (o_I (sh : Int))), (4, .int (o_I (lm : Int))), (6, .int (o_I (k : Int))), (7, .int (o_I D)), (8, .int (o_I x))] [.int (o_I z)] 192 h' mc9 ms9) : o_V l mL_drawn (d + 10) d_al d_post 171 [(0, .ref 5000000), (1, .ref 0), (3, .int (o_I (sh : Int))), (4, .int (o_I (lm : Int))), (6, .int (o_I (k : Int))), (7, .int (o_I D)), (8, .int (o_I x))] [] 192 h mc ms := by
  refine o_iload dL_drawn_171 rfl ?_
  refine o_bipush dL_drawn_173 (by decide) ?_
  refine o_irem dL_drawn_175 ⟨by omega, by omega⟩ ⟨by omega, by omega⟩ (by omega) (by omega) ?_
  refine o_iconst dL_drawn_176 ?_
  refine o_icmp_ge (tgt := 218) dL_drawn_177 (by decide) ⟨by omega, by omega⟩ ⟨by omega, by omega⟩ (fun c1 => ?_) (fun c1 => ?_)
  · skip
    refine o_iload dL_drawn_218 rfl ?_
    refine o_bipush dL_drawn_220 (by decide) ?_
    refine o_irem dL_drawn_222 ⟨by omega, by omega⟩ ⟨by omega, by omega⟩ (by omega) (by omega) ?_
    refine o_iconst dL_drawn_223 ?_
    refine o_icmp_ne (tgt := 246) dL_drawn_224 (by decide) ⟨by omega, by omega⟩ ⟨by omega, by omega⟩ (fun c2 => ?_) (fun c2 => ?_)
    · skip
      refine o_iload dL_drawn_246 rfl ?_
      refine o_bipush dL_drawn_248 (by decide) ?_
      refine o_irem dL_drawn_250 ⟨by omega, by omega⟩ ⟨by omega, by omega⟩ (by omega) (by omega) ?_
      refine o_bipush dL_drawn_251 (by decide) ?_
      refine o_icmp_ne (tgt := 272) dL_drawn_253 (by decide) ⟨by omega, by omega⟩ ⟨by omega, by omega⟩ (fun c3 => ?_) (fun c3 => ?_)
      · skip
        refine o_iload dL_drawn_272 rfl ?_
        refine o_bipush dL_drawn_274 (by decide) ?_
        refine o_irem dL_drawn_276 ⟨by omega, by omega⟩ ⟨by omega, by omega⟩ (by omega) (by omega) ?_
        refine o_bipush dL_drawn_277 (by decide) ?_
        refine o_icmp_ne (tgt := 291) dL_drawn_279 (by decide) ⟨by omega, by omega⟩ ⟨by omega, by omega⟩ (fun c4 => ?_) (fun c4 => ?_)
        · exact dr_oil hl hsh hlm hn hD hx9 hI hmc hms J
        · exact dr_giveUp hl hsh hlm hn hD hx9 hI hmc hms J
      · exact dr_pass hl hsh hlm hn hD hx9 hI hmc hms J
    · exact dr_renew hl hsh hlm hn hD hx9 hI hmc hms J
  · exact dr_lease hl hsh hlm hn hD hx9 hI hmc hms J
set_option maxRecDepth 100000 in
set_option maxHeartbeats 4000000 in
theorem dr_loop (hl : l.stackTraces = false) {sh lm : Nat} (hsh : 1 ≤ sh ∧ sh ≤ 5) (hlm : 2 ≤ lm ∧ lm ≤ 8) : ∀ (k : Nat), k ≤ 11 → ∀ (n mc ms : Nat) (g M : Nat → Nat → Int) (P : List (Nat → Nat → Int)) (T : Nat → Nat → Int) (h : Nat → o_C), n + (11 - k) ≤ 40 → d_I sh lm n g M P T h → (11 - k) ≤ mc → 6 * (11 - k) ≤ ms → o_V l mL_drawn (d + 10) d_al d_post 143 [(0, .ref 5000000), (1, .ref 0), (3, .int (o_I (sh : Int))), (4, .int (o_I (lm : Int))), (6, .int (o_I (k : Int)))] [] 192 h mc ms := by
  refine o_lp (fun k => ∀ (n mc ms : Nat) (g M : Nat → Nat → Int) (P : List (Nat → Nat → Int)) (T : Nat → Nat → Int) (h : Nat → o_C), n + (11 - k) ≤ 40 → d_I sh lm n g M P T h → (11 - k) ≤ mc → 6 * (11 - k) ≤ ms → o_V l mL_drawn (d + 10) d_al d_post 143 [(0, .ref 5000000), (1, .ref 0), (3, .int (o_I (sh : Int))), (4, .int (o_I (lm : Int))), (6, .int (o_I (k : Int)))] [] 192 h mc ms) 11 (fun k hk ih n mc ms g M P T h hn hI hmc hms => ?_)
  refine o_iload dL_drawn_143 rfl ?_
  refine o_bipush dL_drawn_145 (by decide) ?_
  refine o_icmp_ge (tgt := 321) dL_drawn_147 (by decide) ⟨by omega, by omega⟩ ⟨by omega, by omega⟩ (fun c9 => ?_) (fun c9 => ?_)
  · obtain ⟨hx, hw, hH, he, h00, h01⟩ := hI
    refine o_aload_n dL_drawn_321 rfl ?_
    refine o_ret1 dL_drawn_322 (Or.inr ⟨_, rfl⟩) ?_
    exact ⟨rfl, rfl, g, M, P, T, hH, hx, hw.more (by omega), he, by omega, by omega⟩
  · refine o_aload_n dL_drawn_150 rfl ?_
    refine o_iconst dL_drawn_151 ?_
    refine o_iload dL_drawn_152 rfl ?_
    refine o_iadd dL_drawn_154 ?_
    refine o_callS [.ref 5000000, .int (o_I ((1 : Int) + (k : Int)))] (ct_L_cell hl 0 192 h ((1 : Int) + (k : Int)) (by omega) (by omega)) dL_drawn_155 ml_L_145 ys_L_cell rfl (by decide) (by omega) (Nat.zero_le _) (Nat.zero_le _) rfl (Nat.le_of_ble_eq_true rfl) (fun _ z => z.elim) (fun _ z => z.elim) (Or.inl fun _ z => z) (fun v9 n9 h9 q9 => ?_) (fun E n9 h9 q9 => by obtain ⟨⟨x, q⟩, -⟩ := q9; cases q)
    obtain ⟨⟨x9, q⟩, rfl, rfl⟩ := q9
    cases q
    refine o_iconst dL_drawn_158 ?_
    refine y_iushr (by omega) (by omega) dL_drawn_159 (fun D D0 D1 => ?_)
    refine o_istore dL_drawn_160 (by decide) ?_
    refine o_iload dL_drawn_162 rfl ?_
    refine o_iconst dL_drawn_164 ?_
    refine y_iushr (by omega) (by omega) dL_drawn_165 (fun a a0 a1 => ?_)
    refine o_iload dL_drawn_166 rfl ?_
    refine o_irem dL_drawn_168 ⟨by omega, by omega⟩ ⟨by omega, by omega⟩ (by omega) (by omega) ?_
    have hx9 : 0 ≤ a % (lm : Int) ∧ a % (lm : Int) < lm := ⟨Int.emod_nonneg _ (by omega), Int.emod_lt_of_pos _ (by omega)⟩
    refine o_istore dL_drawn_169 (by decide) ?_
    refine o_loc [(0, .ref 5000000), (1, .ref 0), (3, .int (o_I (sh : Int))), (4, .int (o_I (lm : Int))), (6, .int (o_I (k : Int))), (7, .int (o_I D)), (8, .int (o_I (a % (lm : Int))))] rfl ?_
    refine dr_one hl hsh hlm (by omega) ⟨D0, D1⟩ hx9 hI (by omega) (by omega) (fun z g2 M2 P2 T2 h2 mc2 ms2 hI2 hz hz1 b1 b2 => ?_)
    refine o_istore dL_drawn_305 (by decide) ?_
    refine o_iload dL_drawn_307 rfl ?_
    refine o_iconst dL_drawn_309 ?_
    refine o_icmp_ne (tgt := 315) dL_drawn_310 (by decide) hz ⟨by omega, by omega⟩ (fun c8 => ?_) (fun c8 => absurd (by omega) hz1)
    refine o_iinc dL_drawn_315 rfl (by decide) ?_
    refine o_goto (tgt := 143) dL_drawn_318 (by decide) ?_
    exact o_loc [(0, .ref 5000000), (1, .ref 0), (3, .int (o_I (sh : Int))), (4, .int (o_I (lm : Int))), (6, .int (o_I ((k + 1 : Nat) : Int)))] rfl (ih (by omega) (n + 1) _ _ g2 M2 P2 T2 h2 (by omega) hI2 (by omega) (by omega))
set_option maxRecDepth 100000 in
set_option maxHeartbeats 4000000 in
theorem dr_97 (hl : l.stackTraces = false) {sh lm n : Nat} (hsh : 1 ≤ sh ∧ sh ≤ 5) (hlm : 2 ≤ lm ∧ lm ≤ 8) (hn : n ≤ 20) {c : Int} (hc : 0 ≤ c ∧ c ≤ 2147483647) {g M T : Nat → Nat → Int} {P : List (Nat → Nat → Int)} {h : Nat → o_C} (hI : d_I sh lm n g M P T h) (h02 : M 0 2 = 0) (hmc : 12 ≤ mc) (hms : 72 ≤ ms) : o_V l mL_drawn (d + 10) d_al d_post 97 [(0, .ref 5000000), (1, .ref 0), (2, .int (o_I c)), (3, .int (o_I (sh : Int))), (4, .int (o_I (lm : Int)))] [] 192 h mc ms := by
  have J140 : ∀ (n : Nat) (g M : Nat → Nat → Int) (P : List (Nat → Nat → Int)) (T : Nat → Nat → Int) (h : Nat → o_C) (mc ms : Nat) (o9 : Int), n ≤ 21 → d_I sh lm n g M P T h → 11 ≤ mc → 66 ≤ ms → o_V l mL_drawn (d + 10) d_al d_post 140 [(0, .ref 5000000), (1, .ref 0), (2, .int (o_I c)), (3, .int (o_I (sh : Int))), (4, .int (o_I (lm : Int))), (5, .int (o_I o9))] [] 192 h mc ms := fun n g M P T h mc ms o9 hn hI h1 h2 => by
    refine o_iconst dL_drawn_140 ?_
    refine o_istore dL_drawn_141 (by decide) ?_
    exact o_loc [(0, .ref 5000000), (1, .ref 0), (3, .int (o_I (sh : Int))), (4, .int (o_I (lm : Int))), (6, .int (o_I ((0 : Nat) : Int)))] rfl (dr_loop hl hsh hlm 0 (Nat.zero_le _) n _ _ g M P T h (by omega) hI (by omega) (by omega))
  obtain ⟨hx, hw, hH, he, h00, h01⟩ := hI
  have hh := w_hh hw.1 (by omega)
  refine o_iconst dL_drawn_97 ?_
  refine o_iload_n dL_drawn_98 rfl ?_
  refine o_bipush dL_drawn_99 (by decide) ?_
  refine y_iushr (by omega) (by omega) dL_drawn_101 (fun b b0 b1 => ?_)
  refine o_iload_n dL_drawn_102 rfl ?_
  refine o_iconst dL_drawn_103 ?_
  refine o_irem dL_drawn_104 ⟨by omega, by omega⟩ ⟨by omega, by omega⟩ (by omega) (by omega) ?_
  have J9 : ∀ q : Int, (q = 200 ∨ q = 40) → o_V l mL_drawn (d + 10) d_al d_post 116 [(0, .ref 5000000), (1, .ref 0), (2, .int (o_I c)), (3, .int (o_I (sh : Int))), (4, .int (o_I (lm : Int)))] [.int (o_I q), .int (o_I b), .int (o_I 1)] 192 h mc ms := fun q hq => by
    have hv9 : 0 ≤ b % q ∧ b % q < 200 := by
      rcases hq with rfl | rfl <;> omega
    refine o_irem dL_drawn_116 ⟨by omega, by omega⟩ ⟨by omega, by omega⟩ (by omega) (by omega) ?_
    refine o_iadd dL_drawn_117 ?_
    refine o_istore dL_drawn_118 (by decide) ?_
    refine o_iload_n dL_drawn_120 rfl ?_
    refine o_bipush dL_drawn_121 (by decide) ?_
    refine o_irem dL_drawn_123 ⟨by omega, by omega⟩ ⟨by omega, by omega⟩ (by omega) (by omega) ?_
    refine o_if_le (tgt := 140) dL_drawn_124 (by decide) ⟨by omega, by omega⟩ (fun c9 => ?_) (fun c9 => ?_)
    · exact o_loc [(0, .ref 5000000), (1, .ref 0), (2, .int (o_I c)), (3, .int (o_I (sh : Int))), (4, .int (o_I (lm : Int))), (5, .int (o_I (1 + b % q)))] rfl (J140 n g M P T h _ _ _ (by omega) ⟨hx, hw, hH, he, h00, h01⟩ (by omega) (by omega))
    · skip
      refine o_aload_n dL_drawn_127 rfl ?_
      refine o_iload dL_drawn_128 rfl ?_
      refine u_q [.ref 0, .int (o_I (1 + b % q))] (cu_addOil hl 0 192 n g M P none T h hx hw (by omega) hH (1 + b % q) ⟨by omega, by omega⟩) dL_drawn_130 ml_L_154 ys_L_addOil rfl (by decide) (by omega) (by omega) (by omega) rfl (Nat.le_of_ble_eq_true rfl) (fun z g2 M2 P2 T2 h2 u2 => ?_)
      obtain ⟨ux, uw, uH, -, uz, -, ux9⟩ := u2
      have hr : r_oil M (1 + b % q) = 0 := by
        unfold r_oil
        rw [if_neg (by omega), if_neg (by omega)]
      rcases ux9 with ⟨-, -, q0, rfl⟩ | ⟨k0, -⟩
      · obtain ⟨v1, v2, v3⟩ := d_oil (1 + b % q) he
        have ez : z = 1 + b % q := by omega
        rw [ez]
        refine o_iload dL_drawn_133 rfl ?_
        refine o_icmp_eq (tgt := 140) dL_drawn_135 (by decide) ⟨by omega, by omega⟩ ⟨by omega, by omega⟩ (fun c8 => ?_) (fun c8 => absurd rfl c8)
        exact o_loc [(0, .ref 5000000), (1, .ref 0), (2, .int (o_I c)), (3, .int (o_I (sh : Int))), (4, .int (o_I (lm : Int))), (5, .int (o_I (1 + b % q)))] rfl (J140 (n + 1) g2 _ P2 T2 h2 _ _ _ (by omega) ⟨ux, uw, uH, v1, v2.trans h00, v3.trans h01⟩ (by omega) (by omega))
      · exact absurd hr k0
  refine o_if_ne (tgt := 114) dL_drawn_105 (by decide) ⟨by omega, by omega⟩ (fun c9 => ?_) (fun c9 => ?_)
  · refine o_bipush dL_drawn_114 (by decide) ?_
    exact J9 40 (Or.inr rfl)
  · refine o_sipush dL_drawn_108 (by decide) ?_
    refine o_goto (tgt := 116) dL_drawn_111 (by decide) ?_
    exact J9 200 (Or.inl rfl)
set_option maxRecDepth 100000 in
set_option maxHeartbeats 4000000 in
theorem dr_61 (hl : l.stackTraces = false) {sh lm : Nat} (hsh : 1 ≤ sh ∧ sh ≤ 5) (hlm : 2 ≤ lm ∧ lm ≤ 8) {c : Int} (hc : 0 ≤ c ∧ c ≤ 2147483647) : ∀ (k : Nat), k ≤ lm → ∀ (mc ms : Nat) (g M : Nat → Nat → Int) (P : List (Nat → Nat → Int)) (T : Nat → Nat → Int) (h : Nat → o_C), d_I sh k (sh + k) g M P T h → M 0 2 = 0 → (lm - k) + 12 ≤ mc → 6 * (lm - k) + 72 ≤ ms → o_V l mL_drawn (d + 10) d_al d_post 61 [(0, .ref 5000000), (1, .ref 0), (2, .int (o_I c)), (3, .int (o_I (sh : Int))), (4, .int (o_I (lm : Int))), (5, .int (o_I (k : Int)))] [] 192 h mc ms := by
  refine o_lp (fun k => ∀ (mc ms : Nat) (g M : Nat → Nat → Int) (P : List (Nat → Nat → Int)) (T : Nat → Nat → Int) (h : Nat → o_C), d_I sh k (sh + k) g M P T h → M 0 2 = 0 → (lm - k) + 12 ≤ mc → 6 * (lm - k) + 72 ≤ ms → o_V l mL_drawn (d + 10) d_al d_post 61 [(0, .ref 5000000), (1, .ref 0), (2, .int (o_I c)), (3, .int (o_I (sh : Int))), (4, .int (o_I (lm : Int))), (5, .int (o_I (k : Int)))] [] 192 h mc ms) lm (fun k hk ih mc ms g M P T h hI h02 hmc hms => ?_)
  refine o_iload dL_drawn_61 rfl ?_
  refine o_iload dL_drawn_63 rfl ?_
  refine o_icmp_ge (tgt := 97) dL_drawn_65 (by decide) ⟨by omega, by omega⟩ ⟨by omega, by omega⟩ (fun c9 => ?_) (fun c9 => ?_)
  · have ek : k = lm := by omega
    subst ek
    exact o_loc [(0, .ref 5000000), (1, .ref 0), (2, .int (o_I c)), (3, .int (o_I (sh : Int))), (4, .int (o_I (k : Int)))] rfl (dr_97 hl hsh hlm (by omega) hc hI h02 (by omega) (by omega))
  · obtain ⟨n, hn9⟩ : ∃ n, n = sh + k := ⟨_, rfl⟩
    rw [← hn9] at hI
    obtain ⟨hx, hw, hH, he, h00, h01⟩ := hI
    have hh := w_hh hw.1 (by omega)
    refine o_aload_n dL_drawn_68 rfl ?_
    refine o_iconst dL_drawn_69 ?_
    refine o_iload_n dL_drawn_70 rfl ?_
    refine o_iconst dL_drawn_71 ?_
    refine o_iload dL_drawn_72 rfl ?_
    refine o_imul dL_drawn_74 ?_
    refine o_iconst dL_drawn_75 ?_
    refine o_iadd dL_drawn_76 ?_
    refine y_iushr (by omega) (by omega) dL_drawn_77 (fun w w0 w1 => ?_)
    refine o_iconst dL_drawn_78 ?_
    refine o_irem dL_drawn_79 ⟨by omega, by omega⟩ ⟨by omega, by omega⟩ (by omega) (by omega) ?_
    refine o_iadd dL_drawn_80 ?_
    refine u_q [.ref 0, .int (o_I (1 + w % 3))] (cu_addLamp hl 0 192 n g M P none T h hx hw (by omega) hH (1 + w % 3) ⟨by omega, by omega⟩) dL_drawn_81 ml_L_151 ys_L_addLamp rfl (by decide) (by omega) (by omega) (by omega) rfl (Nat.le_of_ble_eq_true rfl) (fun z g2 M2 P2 T2 h2 u2 => ?_)
    obtain ⟨ux, uw, uH, -, uz, -, ux9⟩ := u2
    have hr : r_lamp M (1 + w % 3) = 0 := by
      unfold r_lamp
      rw [if_neg (by omega), if_neg (by omega)]
    rcases ux9 with ⟨-, -, q0, rfl⟩ | ⟨k0, -⟩
    · have ez : z = (k : Int) := by omega
      rw [ez]
      have h03 := hw.1.1.1.2.1.2.2.1
      refine o_iload dL_drawn_84 rfl ?_
      refine o_icmp_eq (tgt := 91) dL_drawn_86 (by decide) ⟨by omega, by omega⟩ ⟨by omega, by omega⟩ (fun c8 => ?_) (fun c8 => absurd rfl c8)
      refine o_iinc dL_drawn_91 rfl (by decide) ?_
      refine o_goto (tgt := 61) dL_drawn_94 (by decide) ?_
      exact o_loc [(0, .ref 5000000), (1, .ref 0), (2, .int (o_I c)), (3, .int (o_I (sh : Int))), (4, .int (o_I (lm : Int))), (5, .int (o_I ((k + 1 : Nat) : Int)))] rfl (ih (by omega) _ _ g2 _ P2 T2 h2 ⟨ux, by rw [show sh + (k + 1) = n + 1 by omega]; exact uw, uH, e_lamp he (by omega) h03, by rw [show m_lamp M (1 + w % 3) 0 0 = M 0 0 by simp [m_lamp, o_e]]; exact h00, by rw [show m_lamp M (1 + w % 3) 0 1 = M 0 1 + 1 by simp [m_lamp, o_e], h01]; omega⟩ (by rw [show m_lamp M (1 + w % 3) 0 2 = M 0 2 by simp [m_lamp, o_e]]; exact h02) (by omega) (by omega))
    · exact absurd hr k0
set_option maxRecDepth 100000 in
set_option maxHeartbeats 4000000 in
theorem dr_35 (hl : l.stackTraces = false) {sh lm : Nat} (hsh : 1 ≤ sh ∧ sh ≤ 5) (hlm : 2 ≤ lm ∧ lm ≤ 8) {c : Int} (hc : 0 ≤ c ∧ c ≤ 2147483647) : ∀ (k : Nat), k ≤ sh → ∀ (mc ms : Nat) (g M : Nat → Nat → Int) (P : List (Nat → Nat → Int)) (T : Nat → Nat → Int) (h : Nat → o_C), d_I k 0 k g M P T h → M 0 2 = 0 → (sh - k) + 20 ≤ mc → 6 * (sh - k) + 120 ≤ ms → o_V l mL_drawn (d + 10) d_al d_post 35 [(0, .ref 5000000), (1, .ref 0), (2, .int (o_I c)), (3, .int (o_I (sh : Int))), (4, .int (o_I (lm : Int))), (5, .int (o_I (k : Int)))] [] 192 h mc ms := by
  refine o_lp (fun k => ∀ (mc ms : Nat) (g M : Nat → Nat → Int) (P : List (Nat → Nat → Int)) (T : Nat → Nat → Int) (h : Nat → o_C), d_I k 0 k g M P T h → M 0 2 = 0 → (sh - k) + 20 ≤ mc → 6 * (sh - k) + 120 ≤ ms → o_V l mL_drawn (d + 10) d_al d_post 35 [(0, .ref 5000000), (1, .ref 0), (2, .int (o_I c)), (3, .int (o_I (sh : Int))), (4, .int (o_I (lm : Int))), (5, .int (o_I (k : Int)))] [] 192 h mc ms) sh (fun k hk ih mc ms g M P T h hI h02 hmc hms => ?_)
  refine o_iload dL_drawn_35 rfl ?_
  refine o_iload_n dL_drawn_37 rfl ?_
  refine o_icmp_ge (tgt := 58) dL_drawn_38 (by decide) ⟨by omega, by omega⟩ ⟨by omega, by omega⟩ (fun c9 => ?_) (fun c9 => ?_)
  · have ek : k = sh := by omega
    subst ek
    refine o_iconst dL_drawn_58 ?_
    refine o_istore dL_drawn_59 (by decide) ?_
    exact o_loc [(0, .ref 5000000), (1, .ref 0), (2, .int (o_I c)), (3, .int (o_I (k : Int))), (4, .int (o_I (lm : Int))), (5, .int (o_I ((0 : Nat) : Int)))] rfl (dr_61 hl hsh hlm hc 0 (Nat.zero_le _) _ _ g M P T h hI h02 (by omega) (by omega))
  · obtain ⟨n, hn9⟩ : ∃ n, n = k := ⟨_, rfl⟩
    have hI : d_I k 0 n g M P T h := by rw [hn9]; exact hI
    obtain ⟨hx, hw, hH, he, h00, h01⟩ := hI
    have hh := w_hh hw.1 (by omega)
    refine o_aload_n dL_drawn_41 rfl ?_
    refine u_q [.ref 0] (cu_addShip hl 0 192 n g M P none T h hx hw (by omega) hH) dL_drawn_42 ml_L_149 ys_L_addShip rfl (by decide) (by omega) (by omega) (by omega) rfl (Nat.le_of_ble_eq_true rfl) (fun z g2 M2 P2 T2 h2 u2 => ?_)
    obtain ⟨ux, uw, uH, -, uz, -, ux9⟩ := u2
    have hr : r_ship M = 0 := by
      unfold r_ship
      rw [if_neg (by omega)]
    rcases ux9 with ⟨-, -, q0, rfl⟩ | ⟨k0, -⟩
    · have ez : z = (k : Int) := by omega
      rw [ez]
      refine o_iload dL_drawn_45 rfl ?_
      refine o_icmp_eq (tgt := 52) dL_drawn_47 (by decide) ⟨by omega, by omega⟩ ⟨by omega, by omega⟩ (fun c8 => ?_) (fun c8 => absurd rfl c8)
      refine o_iinc dL_drawn_52 rfl (by decide) ?_
      refine o_goto (tgt := 35) dL_drawn_55 (by decide) ?_
      exact o_loc [(0, .ref 5000000), (1, .ref 0), (2, .int (o_I c)), (3, .int (o_I (sh : Int))), (4, .int (o_I (lm : Int))), (5, .int (o_I ((k + 1 : Nat) : Int)))] rfl (ih (by omega) _ _ g2 _ P2 T2 h2 ⟨ux, by rw [← hn9]; exact uw, uH, he.sm (e_ship M), by rw [show m_ship M 0 0 = M 0 0 + 1 by simp [m_ship, o_e], h00]; omega, by rw [show m_ship M 0 1 = M 0 1 by simp [m_ship, o_e]]; exact h01⟩ (by rw [show m_ship M 0 2 = M 0 2 by simp [m_ship, o_e]]; exact h02) (by omega) (by omega))
    · exact absurd hr k0
end DR
set_option maxRecDepth 100000 in
set_option maxHeartbeats 4000000 in
/-- drawn -/
theorem ct_L_drawn {l : Launch} (hl : l.stackTraces = false) (d : Nat) : o_Ct l yL_drawn wL_drawn (d + 10) d_al [.ref 5000000] 0 (o_hL []) 300 2000 d_post := by
  refine o_Ct.ofV hl mL_drawn (by decide +kernel) rfl rfl rfl (Nat.le_of_ble_eq_true rfl) ?_
  refine o_loc [(0, .ref 5000000)] rfl ?_
  refine o_new (ci := 0) (N := 12) (C := RX11) (T := TX11) (fs := [.null, .null, .null, .int (o_I 0), .null, .null, .null, .null, .null, .int (o_I 0), .int (o_I 0), .int (o_I 0)]) (ty := tyX11) (fun k hk => absurd hk (Nat.not_lt_zero k)) (by decide) (show (0 : Nat) < 1000000 by decide) dL_drawn_0 (o_gT (i := 40) (by decide +kernel) rfl) (o_gT (i := 41) (by decide +kernel) rfl) (o_gT (i := 1) (by decide +kernel) rfl) rfl tyX11_ok (fun j hj => by rcases (by omega : j = 0 ∨ j = 1 ∨ j = 2 ∨ j = 3 ∨ j = 4 ∨ j = 5 ∨ j = 6 ∨ j = 7 ∨ j = 8 ∨ j = 9 ∨ j = 10 ∨ j = 11) with rfl | rfl | rfl | rfl | rfl | rfl | rfl | rfl | rfl | rfl | rfl | rfl <;> rfl) (fun v hv r => by simp only [List.mem_cons, List.not_mem_nil, or_false] at hv; rcases hv with rfl | rfl | rfl | rfl | rfl | rfl | rfl | rfl | rfl | rfl | rfl | rfl <;> exact fun z => by cases z) ⟨fun q hq k hk => by simp only [List.mem_cons, List.not_mem_nil, or_false] at hq; rcases hq with rfl <;> (cases hk; decide), fun v hv => absurd hv List.not_mem_nil⟩ (Nat.le_of_ble_eq_true rfl) (Nat.le_of_ble_eq_true rfl) (fun ok1 => ?_)
  rw [show o_up (o_hL []) 0 (.inr (0, [.null, .null, .null, .int (o_I 0), .null, .null, .null, .null, .null, .int (o_I 0), .int (o_I 0), .int (o_I 0)])) = o_hL ([] ++ [.inr (0, [.null, .null, .null, .int (o_I 0), .null, .null, .null, .null, .null, .int (o_I 0), .int (o_I 0), .int (o_I 0)])]) from o_hA (L := []) (R := []) rfl _] at ok1 ⊢
  refine o_dup dL_drawn_3 rfl ?_
  have hC1 := ct_X11_init hl 0 [] 0 rfl (by decide) ok1
  refine o_callI (aly := x_al 0) [] hC1 dL_drawn_4 ml_L_144 yi_X11_init rfl rfl (by decide) (by omega) (Nat.le_of_ble_eq_true rfl) (Nat.le_of_ble_eq_true rfl) rfl (Nat.le_of_ble_eq_true rfl) (fun k hk => hk.2) (fun k hk => hk.2) (Or.inr ⟨fun q hq k hk z => by simp only [List.mem_cons, List.not_mem_nil, or_false] at hq; rcases hq with rfl <;> (cases hk; have z1 := z.1; have z2 := z.2; omega), fun v hv k hk z => by simp only [List.mem_cons, List.not_mem_nil, or_false] at hv; rcases hv with rfl <;> (cases hk; have z1 := z.1; have z2 := z.2; omega)⟩) (fun v9 n9 h9 q9 => ?_) (fun E n9 h9 q9 => by cases q9.1)
  obtain ⟨q1, q2, q3, ok2⟩ := q9
  subst q2
  subst q3
  cases q1
  change o_ok 192 (o_hL (x_c11 0)) at ok2
  change o_V _ _ _ _ _ _ _ _ 192 (o_hL (x_c11 0)) _ _
  refine o_astore_n dL_drawn_7 (by decide) ?_
  refine o_loc [(0, .ref 5000000), (1, .ref 0)] rfl ?_
  refine x_start ?_
  refine o_aload_n dL_drawn_8 rfl ?_
  refine o_iconst dL_drawn_9 ?_
  refine o_callS [.ref 5000000, .int (o_I 0)] (ct_L_cell hl 0 o_N (o_mem x_g0) 0 (by decide) (by decide)) dL_drawn_10 ml_L_145 ys_L_cell rfl (by decide) (by omega) (Nat.zero_le _) (Nat.zero_le _) rfl (Nat.le_of_ble_eq_true rfl) (fun _ z => z.elim) (fun _ z => z.elim) (Or.inl fun _ z => z) (fun v9 n9 h9 q9 => ?_) (fun E n9 h9 q9 => by obtain ⟨⟨x, q⟩, -⟩ := q9; cases q)
  obtain ⟨⟨x9, q⟩, rfl, rfl⟩ := q9
  cases q
  refine o_iconst dL_drawn_13 ?_
  refine y_iushr (by omega) (by omega) dL_drawn_14 (fun c c0 c1 => ?_)
  refine o_istore_n dL_drawn_15 (by decide) ?_
  refine o_iconst dL_drawn_16 ?_
  refine o_iload_n dL_drawn_17 rfl ?_
  refine o_iconst dL_drawn_18 ?_
  refine o_irem dL_drawn_19 ⟨by omega, by omega⟩ ⟨by omega, by omega⟩ (by omega) (by omega) ?_
  refine o_iadd dL_drawn_20 ?_
  refine o_istore_n dL_drawn_21 (by decide) ?_
  refine o_iconst dL_drawn_22 ?_
  refine o_iload_n dL_drawn_23 rfl ?_
  refine o_iconst dL_drawn_24 ?_
  refine y_iushr (by omega) (by omega) dL_drawn_25 (fun a a0 a1 => ?_)
  refine o_bipush dL_drawn_26 (by decide) ?_
  refine o_irem dL_drawn_28 ⟨by omega, by omega⟩ ⟨by omega, by omega⟩ (by omega) (by omega) ?_
  refine o_iadd dL_drawn_29 ?_
  refine o_istore dL_drawn_30 (by decide) ?_
  refine o_iconst dL_drawn_32 ?_
  refine o_istore dL_drawn_33 (by decide) ?_
  obtain ⟨sh, hsh⟩ : ∃ sh : Nat, (sh : Int) = 1 + c % 5 := ⟨(1 + c % 5).toNat, by omega⟩
  obtain ⟨lm, hlm⟩ : ∃ lm : Nat, (lm : Int) = 2 + a % 7 := ⟨(2 + a % 7).toNat, by omega⟩
  rw [← hsh, ← hlm]
  exact o_loc [(0, .ref 5000000), (1, .ref 0), (2, .int (o_I c)), (3, .int (o_I (sh : Int))), (4, .int (o_I (lm : Int))), (5, .int (o_I ((0 : Nat) : Int)))] rfl (dr_35 hl (by omega) (by omega) ⟨c0, c1⟩ 0 (Nat.zero_le _) _ _ x_g0 x_M0 [] x_T0 (o_mem x_g0) ⟨x_xd0, w_in0, t_H0 _, fun i hi => absurd hi (by show ¬ (i : Int) < 0; omega), rfl, rfl⟩ rfl (by omega) (by omega))
set_option maxRecDepth 100000 in
set_option maxHeartbeats 4000000 in
/-- the law -/
theorem w_law {l : Launch} (hl : l.stackTraces = false) {post : o_P} (hpost : ∀ n h, post (.inl (some (.int (o_I 1)))) n h) : o_V l mL_law 20 d_al post 0 [(0, .ref 5000000)] [] 0 (o_hL []) 30000 300000 := by
  refine o_aload_n dL_law_0 rfl ?_
  refine o_callS (aly := d_al) [.ref 5000000] (rest := []) (ct_L_drawn hl 0) dL_law_1 ml_L_174 ys_L_drawn rfl (by decide) (by omega) (by omega) (by omega) rfl (Nat.le_of_ble_eq_true rfl) (fun _ z => z) (fun _ z => z) (Or.inr ⟨fun q hq (k : Nat) hk z => by simp only [List.mem_cons, List.not_mem_nil, or_false] at hq; subst hq; cases hk; have z : (5000000 : Nat) < 1000000 := z; omega, fun v hv => by cases hv⟩) (fun v9 n9 h9 q9 => ?_) (fun E n9 h9 q9 => by cases q9.1)
  obtain ⟨w1, rfl, g, M, P, T, hH, hx, hw, he, h0, h1⟩ := q9
  cases w1
  refine o_hcg (h' := o_mem g) hH.1 ?_
  refine o_astore_n dL_law_4 (by decide) ?_
  refine o_aload_n dL_law_5 rfl ?_
  refine o_ifnull dL_law_6 ?_
  refine o_loc [(0, .ref 5000000), (1, .ref 0)] rfl ?_
  have hwf := hw.1.1
  refine o_aload_n dL_law_9 rfl ?_
  refine y_s [.ref 0] (ct_L_ships hl 0 g M P none T hx hwf h0) dL_law_10 ml_L_178 ys_L_ships rfl (by decide) (by omega) (by omega) (by omega) rfl (Nat.le_of_ble_eq_true rfl) (fun g hx => ?_)
  refine o_if_eq (tgt := 49) dL_law_13 (by decide) ⟨by omega, by omega⟩ (fun c9 => absurd c9 (by omega)) (fun c9 => ?_)
  refine o_aload_n dL_law_16 rfl ?_
  refine y_s [.ref 0] (ct_L_oils hl 0 g M P none T hx hwf) dL_law_17 ml_L_182 ys_L_oils rfl (by decide) (by omega) (by omega) (by omega) rfl (Nat.le_of_ble_eq_true rfl) (fun g hx => ?_)
  refine o_if_eq (tgt := 49) dL_law_20 (by decide) ⟨by omega, by omega⟩ (fun c9 => absurd c9 (by omega)) (fun c9 => ?_)
  refine o_aload_n dL_law_23 rfl ?_
  refine y_s [.ref 0] (ct_L_lamps hl 0 g M P none T hx hwf he (by omega)) dL_law_24 ml_L_185 ys_L_lamps rfl (by decide) (by omega) (by omega) (by omega) rfl (Nat.le_of_ble_eq_true rfl) (fun g hx => ?_)
  refine o_if_eq (tgt := 49) dL_law_27 (by decide) ⟨by omega, by omega⟩ (fun c9 => absurd c9 (by omega)) (fun c9 => ?_)
  refine o_aload_n dL_law_30 rfl ?_
  refine o_callS (aly := t_al) [.ref 0] (rest := []) (ct_L_texts hl 0 g M P none T hx hwf) dL_law_31 ml_L_188 ys_L_texts rfl (by decide) (by omega) (by omega) (by omega) rfl (Nat.le_of_ble_eq_true rfl) (fun k z => z.2) (fun k z => z.2) (Or.inr ⟨fun q hq (k : Nat) hk z => by
    have z1 := z.1
    have z2 := z.2
    simp only [List.mem_cons, List.not_mem_nil, or_false] at hq
    rcases hq with rfl | rfl <;> (cases hk; omega), fun v hv => by cases hv⟩) (fun v9 n9 h9 q9 => ?_) (fun E n9 h9 q9 => by cases q9.2.2)
  obtain ⟨rfl, ⟨g, rfl, hx⟩, q⟩ := q9
  cases q
  refine o_if_eq (tgt := 49) dL_law_34 (by decide) ⟨by omega, by omega⟩ (fun c9 => absurd c9 (by omega)) (fun c9 => ?_)
  refine o_aload_n dL_law_37 rfl ?_
  refine o_aload_n dL_law_38 rfl ?_
  refine o_callS (aly := t_al) [.ref 5000000, .ref 0] (rest := []) (ct_L_undone hl 0 41 g M P none _ hx (w_out hw) (by decide)) dL_law_39 ml_L_191 ys_L_undone rfl (by decide) (by omega) (by omega) (by omega) rfl (Nat.le_of_ble_eq_true rfl) (fun k z => z.2) (fun k z => z.2) (Or.inr ⟨fun q hq (k : Nat) hk z => by
    have z1 := z.1
    have z2 := z.2
    simp only [List.mem_cons, List.not_mem_nil, or_false] at hq
    rcases hq with rfl | rfl <;> (cases hk; omega), fun v hv => by cases hv⟩) (fun v9 n9 h9 q9 => ?_) (fun E n9 h9 q9 => by cases q9)
  cases q9
  refine o_if_eq (tgt := 49) dL_law_42 (by decide) ⟨by omega, by omega⟩ (fun c9 => absurd c9 (by omega)) (fun c9 => ?_)
  refine o_iconst dL_law_45 ?_
  refine o_goto (tgt := 50) dL_law_46 (by decide) ?_
  exact o_ret1 dL_law_50 t_r1 (hpost _ _)

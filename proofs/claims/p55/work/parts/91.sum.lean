/-! more rows: longs, shifts, the script, String constants; the law's cell and sum -/
theorem y_ldcSW {p : Program} {l : Launch} {e : Env} {R : Room} {s : State} {m : MethodId} {args : Array Value} {below : List Frame} {meth : Method} {c : Code} {T : State} {locs : List Loc} {cells slots : Nat}
    (X : Stand p l e R s m args below meth c T locs cells slots) (hexec : p.tables.exec = Jvm.exec) {own text : String} {index : Nat} {a : Addr} (hown : s.vm.findClass own = some m.cls)
    (hconst : (Cond.stringRef own index text).before args s = true) (hev : (Term.string own index).eval args s none [] s = some (.ref a)) {g : JFrame} (hg : g.method = m) (hdg : decode c.code g.pc = .ok (.ldc_w index, 3)) :
    ∀ target, Steps p.tables e below (T.setTop { g with pc := g.pc + 3, stack := .ref a :: g.stack }) target → Steps p.tables e below (T.setTop g) target := by
  obtain ⟨k, cf, i, a', hk, hcf, hcp, -, hr, hev'⟩ := Cond.stringRef_spec hown hconst
  cases hev.symm.trans hev'
  obtain ⟨k', hk', he⟩ := X.warmed.alike.2.2 _ _ hk
  have hr' : k'.resolved[index]? = some (some (.string a)) := by
    rcases X.warmed.entry hk hk' index with h | ⟨h, -⟩
    · rw [h]; exact hr
    · rw [hr] at h; cases h
  intro target hrest
  subst hg
  jvm_step X.here [hexec, hdg, Jvm.Op.ldc_w.wp_string (e := e) (s := T) (f := g) X.here.top hk' (by rw [he]; exact hcf) hcp hr']
  exact hrest
theorem y_ushN : ∀ k : Fin 32, ((o_I ((k : Nat) : Int)).toUInt32 &&& Int32.toUInt32 31).toNat % 32 = k := by decide +kernel
theorem y_ush (x : Int32) {s : Int} (h1 : 1 ≤ s) (h2 : s ≤ 31) : ∃ z : Int, 0 ≤ z ∧ z ≤ 2147483647 ∧ (x.toUInt32 >>> ((o_I s).toUInt32 &&& Int32.toUInt32 31)).toInt32 = o_I z := by
  obtain ⟨k, rfl⟩ : ∃ k : Nat, s = (k : Int) := ⟨s.toNat, by omega⟩
  have hb := y_ushN ⟨k, by omega⟩
  have hn : (x.toUInt32 >>> ((o_I (k : Int)).toUInt32 &&& Int32.toUInt32 31)).toNat < 2147483648 := by
    rw [UInt32.toNat_shiftRight, hb, Nat.shiftRight_eq_div_pow]
    have hx := x.toUInt32.toNat_lt
    have hp : 2 ≤ 2 ^ k := Nat.le_trans (by decide : 2 ≤ 2 ^ 1) (Nat.pow_le_pow_right (by decide) (by omega))
    have : x.toUInt32.toNat / 2 ^ k ≤ x.toUInt32.toNat / 2 := Nat.div_le_div_left hp (by decide)
    simp only at hx ⊢
    omega
  obtain ⟨u, hu⟩ : ∃ u, u = x.toUInt32 >>> ((o_I (k : Int)).toUInt32 &&& Int32.toUInt32 31) := ⟨_, rfl⟩
  rw [← hu] at hn ⊢
  refine ⟨(u.toNat : Int), by omega, by omega, ?_⟩
  apply Int32.toBitVec_inj.mp
  apply BitVec.eq_of_toNat_eq
  show u.toNat = (BitVec.ofInt 32 (u.toNat : Int)).toNat
  rw [BitVec.ofInt_natCast, BitVec.toNat_ofNat]
  exact (Nat.mod_eq_of_lt (by omega)).symm
theorem y_len (n : Nat) : ∃ z : Int, o_R z ∧ z ≤ n ∧ Int32.ofNat n = o_I z := by
  by_cases h : n ≤ 2147483647
  · exact ⟨n, ⟨by omega, by omega⟩, Int.le_refl _, o_nI n⟩
  · obtain ⟨z, hz, e⟩ := o_of (Int32.ofNat n)
    exact ⟨z, hz, by have := hz.2; omega, e⟩
section YR
variable {l : Launch} {M : o_M} {d : Nat} {al : Nat → Prop} {post : o_P} {pc : Nat} {ls : List (Nat × Value)} {st : List Value} {n : Nat} {h : Nat → o_C} {mc ms : Nat}
theorem o_ladd {x y : Int64} (hd : decode M.2.1 pc = .ok (.ladd, 1)) (k : o_V l M d al post (pc + 1) ls (.long (x + y) :: st) n h mc ms) : o_V l M d al post pc ls (.long y :: .long x :: st) n h mc ms := by
  intro Z p e R s m args below meth c ad H locs cells slots MC MS la Q X E S P a1 a2 a3 a4 L K
  exact lv_ladd X.1 X.2.1 hd (k Z p e R s m args below meth c ad H locs cells slots MC MS la Q X E S P a1 a2 a3 a4 L K)
theorem o_lmul {x y : Int64} (hd : decode M.2.1 pc = .ok (.lmul, 1)) (k : o_V l M d al post (pc + 1) ls (.long (x * y) :: st) n h mc ms) : o_V l M d al post pc ls (.long y :: .long x :: st) n h mc ms := by
  intro Z p e R s m args below meth c ad H locs cells slots MC MS la Q X E S P a1 a2 a3 a4 L K
  exact lv_lmul X.1 X.2.1 hd (k Z p e R s m args below meth c ad H locs cells slots MC MS la Q X E S P a1 a2 a3 a4 L K)
theorem o_ldc2 {i : Nat} {z : Int64} (hd : decode M.2.1 pc = .ok (.ldc2_w i, 3)) (hw : Cond.constantLong M.1 i z ∈ o_gW) (k : o_V l M d al post (pc + 3) ls (.long z :: st) n h mc ms) : o_V l M d al post pc ls st n h mc ms := by
  intro Z p e R s m args below meth c ad H locs cells slots MC MS la Q X E S P a1 a2 a3 a4 L K
  exact lv_ldc2 X.1 X.2.1 X.2.2.1 (X.2.2.2.1 _ hw) hd (k Z p e R s m args below meth c ad H locs cells slots MC MS la Q X E S P a1 a2 a3 a4 L K)
theorem o_ldcSW {i num : Nat} {tx : String} (hd : decode M.2.1 pc = .ok (.ldc_w i, 3)) (hq : (M.1, i, tx, num) ∈ o_str) (k : o_V l M d al post (pc + 3) ls (.ref (2000000 + num) :: st) n h mc ms) : o_V l M d al post pc ls st n h mc ms := by
  intro Z p e R s m args below meth c ad H locs cells slots MC MS la Q X E S P a1 a2 a3 a4 L K
  intro T hT X9
  have hZ := E.2.2.2.1 _ hq
  obtain ⟨t, b1, b2⟩ := k Z p e R s m args below meth c ad H locs cells slots MC MS la Q X E S P a1 a2 a3 a4 L K T hT X9
  exact ⟨t, y_ldcSW X9 X.1 X.2.2.1 (text := tx) (a := ad (2000000 + num)) hZ.1 hZ.2 (g := F0 m pc la (st.map (o_rV ad))) rfl (by rw [X.2.1]; exact hd) t b1, b2⟩
theorem y_iushr {x : Int32} {s : Int} (h1 : 1 ≤ s) (h2 : s ≤ 31) (hd : decode M.2.1 pc = .ok (.iushr, 1)) (k : ∀ z : Int, 0 ≤ z → z ≤ 2147483647 → o_V l M d al post (pc + 1) ls (.int (o_I z) :: st) n h mc ms) : o_V l M d al post pc ls (.int (o_I s) :: .int x :: st) n h mc ms := by
  intro Z p e R s9 m args below meth c ad H locs cells slots MC MS la Q X E S P a1 a2 a3 a4 L K
  obtain ⟨z, z1, z2, z3⟩ := y_ush x h1 h2
  exact lv_iushr X.1 X.2.1 hd z3 (k z z1 z2 Z p e R s9 m args below meth c ad H locs cells slots MC MS la Q X E S P a1 a2 a3 a4 L K)
/-- 'k < s.length ? s[k] : ..' -/
theorem y_cell {kz : Int} {off : Int} {tgt : Nat} (hk : o_R kz) (h0 : 0 ≤ kz) (hd2 : decode M.2.1 pc = .ok (.arraylength, 1)) (hd3 : decode M.2.1 (pc + 1) = .ok (.if_icmp .ge off, 3)) (ht : ((pc + 1 : Nat) : Int) + off = (tgt : Int)) (hd6 : decode M.2.1 (pc + 4) = .ok (.aload_n 0, 1)) (hd7 : decode M.2.1 (pc + 5) = .ok (.iload_n 1, 1)) (hd8 : decode M.2.1 (pc + 6) = .ok (.iaload, 1)) (hg0 : o_get ls 0 = some (.ref 5000000)) (hg1 : o_get ls 1 = some (.int (o_I kz)))
    (k1 : ∀ x : Int32, o_V l M d al post (pc + 7) ls (.int x :: st) n h mc ms) (k2 : o_V l M d al post tgt ls st n h mc ms) : o_V l M d al post pc ls (.ref 5000000 :: .int (o_I kz) :: st) n h mc ms := by
  intro Z p e R s m args below meth c ad H locs cells slots MC MS la Q X E S P a1 a2 a3 a4 L K
  have E9 := E.2.2.2.2.2
  obtain ⟨z, hz, hzn, ez⟩ := y_len Z.2.2.2.1
  refine va_slen X.1 X.2.1 E9.1 (Nat.lt_of_lt_of_le E9.2.1 E.1.1) (fun q => Nat.not_le.mpr E9.2.1 q.1) S hd2 ?_
  rw [ez]
  refine lv_icmp_ge X.1 X.2.1 hd3 ht (fun q => k2 Z p e R s m args below meth c ad H locs cells slots MC MS la Q X E S P a1 a2 a3 a4 L K) (fun q => ?_)
  have hlt : kz < z := by
    by_cases w : kz < z
    · exact w
    · exact absurd ((o_le hz hk).mpr (by omega)) q
  refine lv_aload_n X.1 X.2.1 hd6 rfl (o_lat L hg0) ?_
  refine lv_iload_n X.1 X.2.1 hd7 rfl (o_lat L hg1) ?_
  refine va_sld X.1 X.2.1 E9.1 (Nat.lt_of_lt_of_le E9.2.1 E.1.1) (fun q => Nat.not_le.mpr E9.2.1 q.1) S (o_in hk h0 (by omega)) hd8 ?_
  exact k1 _ Z p e R s m args below meth c ad H locs cells slots MC MS la Q X E S P a1 a2 a3 a4 L K
end YR
theorem lc_328 : Cond.constantLong RL 328 7 ∈ o_gW := o_gT (i := 1428) (by decide +kernel) rfl
theorem lc_330 : Cond.constantLong RL 330 31 ∈ o_gW := o_gT (i := 1429) (by decide +kernel) rfl
theorem lc_335 : Cond.constantLong RL 335 37 ∈ o_gW := o_gT (i := 1434) (by decide +kernel) rfl
theorem lc_337 : Cond.constantLong RL 337 41 ∈ o_gW := o_gT (i := 1435) (by decide +kernel) rfl
theorem lc_339 : Cond.constantLong RL 339 43 ∈ o_gW := o_gT (i := 1436) (by decide +kernel) rfl
theorem lc_341 : Cond.constantLong RL 341 47 ∈ o_gW := o_gT (i := 1437) (by decide +kernel) rfl
theorem lc_343 : Cond.constantLong RL 343 3 ∈ o_gW := o_gT (i := 1438) (by decide +kernel) rfl
theorem lc_345 : Cond.constantLong RL 345 53 ∈ o_gW := o_gT (i := 1439) (by decide +kernel) rfl
set_option maxRecDepth 100000 in
set_option maxHeartbeats 4000000 in
/-- the law's cell: some number -/
theorem ct_L_cell {l : Launch} (hl : l.stackTraces = false) (d : Nat) (n : Nat) (h : Nat → o_C) (k : Int) (h0 : 0 ≤ k) (h1 : k ≤ 1000) : o_Ct l yL_cell wL_cell (d + 1) o_no [.ref 5000000, .int (o_I k)] n h 0 0 (fun o n' h' => (∃ x : Int32, o = .inl (some (.int x))) ∧ n' = n ∧ h' = h) := by
  refine o_Ct.ofV hl mL_cell (by decide +kernel) rfl rfl rfl (Nat.le_of_ble_eq_true rfl) ?_
  refine o_iload_n dL_cell_0 rfl ?_
  refine o_aload_n dL_cell_1 rfl ?_
  refine y_cell (tgt := 12) ⟨by omega, by omega⟩ h0 dL_cell_2 dL_cell_3 (by decide) dL_cell_6 dL_cell_7 dL_cell_8 rfl rfl (fun x => ?_) ?_
  · refine o_goto (tgt := 16) dL_cell_9 (by decide) ?_
    refine o_ret1 dL_cell_16 trivial ?_
    exact ⟨⟨_, rfl⟩, rfl, rfl⟩
  · refine o_ldc (z := 40503) dL_cell_12 (o_gT (i := 346) (by decide +kernel) rfl) ?_
    refine o_iload_n dL_cell_14 rfl ?_
    refine o_imul dL_cell_15 ?_
    refine o_ret1 dL_cell_16 trivial ?_
    exact ⟨⟨_, rfl⟩, rfl, rfl⟩
/-- the sum of all numbers -/
def y_h0 (M : Nat → Nat → Int) : Int64 := 31 * (31 * (7 + (o_I (M 0 3)).toInt64) + (o_I (M 0 2)).toInt64) + (o_I (1000 * M 0 4)).toInt64 + (o_I (M 0 5)).toInt64
def y_hs (M : Nat → Nat → Int) : Nat → Int64
  | 0 => y_h0 M
  | n + 1 => 41 * (37 * y_hs M n + (o_I (1000 * M 1 n)).toInt64 + (o_I (M 2 n)).toInt64) + (o_I (M 3 n)).toInt64
def y_hl (M : Nat → Nat → Int) (a : Int64) : Nat → Int64
  | 0 => a
  | n + 1 => 3 * (47 * (43 * y_hl M a n + (o_I (10 * M 4 n)).toInt64 + (o_I (v_les M n)).toInt64) + (o_I (1000 * v_end M n)).toInt64 + (o_I (M 7 n)).toInt64) + (o_I (o_b (M 8 n = 1))).toInt64
def y_hr (M : Nat → Nat → Int) (a : Int64) : Nat → Int64
  | 0 => a
  | n + 1 => 53 * y_hr M a n + (o_I (100 * M 9 n)).toInt64 + (o_I (M 10 n)).toInt64
def y_sum (M : Nat → Nat → Int) : Int64 := y_hr M (y_hl M (y_hs M (M 0 0).toNat) (M 0 1).toNat) (M 0 6).toNat
set_option maxRecDepth 100000 in
set_option maxHeartbeats 4000000 in
/-- sum -/
theorem ct_L_sum {l : Launch} (hl : l.stackTraces = false) (d : Nat) (g M : Nat → Nat → Int) (P : List (Nat → Nat → Int)) (S : Option (Nat → Nat → Int)) (T : Nat → Nat → Int) (hx : o_xd g M P S T) (hwf : o_wf M) : o_Ct l yL_sum wL_sum (d + 10) o_no [.ref 0] o_N (o_mem g) 100 600 (y_x (.long (y_sum M)) M P S T) := by
  refine o_Ct.ofV hl mL_sum (by decide +kernel) rfl rfl rfl (Nat.le_of_ble_eq_true rfl) ?_
  obtain ⟨⟨hws, hwl, hwq, hwo, hwle, hwrq, hwrd⟩, hwh, hwc, hwe⟩ := id hwf
  obtain ⟨b0, b1, bs⟩ := id hws
  obtain ⟨b2, b3, b4, b5, bl⟩ := id hwl
  obtain ⟨b6, b7, bq⟩ := id hwq
  obtain ⟨b8, b9⟩ := id hwo
  refine o_ldc2 (z := 7) dL_sum_0 lc_328 ?_
  refine o_aload_n dL_sum_3 rfl ?_
  refine y_v _ (cv_hour hl d g M P S T hx hwf) dL_sum_4 ml_L_234 yw_X11_hour rfl (by decide) (by omega) (by omega) (by omega) (by decide) rfl rfl rfl (Nat.le_of_ble_eq_true rfl) (fun g hx => ?_)
  refine o_i2l dL_sum_7 ?_
  refine o_ladd dL_sum_8 ?_
  refine o_lstore_n dL_sum_9 (by decide) ?_
  refine o_ldc2 (z := 31) dL_sum_10 lc_330 ?_
  refine o_lload_n dL_sum_13 rfl ?_
  refine o_lmul dL_sum_14 ?_
  refine o_aload_n dL_sum_15 rfl ?_
  refine y_v _ (cv_oil hl d g M P S T hx hwf) dL_sum_16 ml_L_168 yw_X11_oil rfl (by decide) (by omega) (by omega) (by omega) (by decide) rfl rfl rfl (Nat.le_of_ble_eq_true rfl) (fun g hx => ?_)
  refine o_i2l dL_sum_19 ?_
  refine o_ladd dL_sum_20 ?_
  refine o_lstore_n dL_sum_21 (by decide) ?_
  refine o_ldc2 (z := 31) dL_sum_22 lc_330 ?_
  refine o_lload_n dL_sum_25 rfl ?_
  refine o_lmul dL_sum_26 ?_
  refine o_sipush dL_sum_27 (by decide) ?_
  refine o_aload_n dL_sum_30 rfl ?_
  refine y_v _ (cv_refusedRenewals hl d g M P S T hx hwf) dL_sum_31 ml_L_332 yw_X11_refusedRenewals rfl (by decide) (by omega) (by omega) (by omega) (by decide) rfl rfl rfl (Nat.le_of_ble_eq_true rfl) (fun g hx => ?_)
  refine o_imul dL_sum_34 ?_
  refine o_i2l dL_sum_35 ?_
  refine o_ladd dL_sum_36 ?_
  refine o_aload_n dL_sum_37 rfl ?_
  refine y_v _ (cv_officeCoins hl d g M P S T hx hwf) dL_sum_38 ml_L_221 yw_X11_officeCoins rfl (by decide) (by omega) (by omega) (by omega) (by decide) rfl rfl rfl (Nat.le_of_ble_eq_true rfl) (fun g hx => ?_)
  refine o_i2l dL_sum_41 ?_
  refine o_ladd dL_sum_42 ?_
  refine o_lstore_n dL_sum_43 (by decide) ?_
  refine o_iconst dL_sum_44 ?_
  refine o_istore_n dL_sum_45 (by decide) ?_
  have key_46 := o_lp (fun k => ∀ (q : Int64), (q = y_hs M k) → ∀ g mc ms, o_xd g M P S T → 3 * ((M 0 0).toNat - k) + 58 ≤ mc → 6 * (3 * ((M 0 0).toNat - k) + 58) ≤ ms → o_V l mL_sum (d + 10) o_no (y_x (.long (y_sum M)) M P S T) 46 [(0, .ref 0), (1, .long (q)), (3, .int (o_I ((k : Int))))] [] o_N (o_mem g) mc ms) (M 0 0).toNat (fun k hk ih_46 q hq g mc ms hx h1 h2 => by
    refine o_iload_n dL_sum_46 rfl ?_
    refine o_aload_n dL_sum_47 rfl ?_
    refine y_v _ (cv_shipCount hl d g M P S T hx hwf) dL_sum_48 ml_L_195 yw_X11_shipCount rfl (by decide) (by omega) (by omega) (by omega) (by decide) rfl rfl rfl (Nat.le_of_ble_eq_true rfl) (fun g hx => ?_)
    refine o_icmp_ge (tgt := 97) dL_sum_51 (by decide) ⟨by omega, by omega⟩ ⟨by omega, by omega⟩ (fun c_51 => ?_) (fun c_51 => ?_)
    · skip
      refine o_iconst dL_sum_97 ?_
      refine o_istore_n dL_sum_98 (by decide) ?_
      have key_99 := o_lp (fun k => ∀ (q : Int64), (q = y_hl M (y_hs M (M 0 0).toNat) k) → ∀ g mc ms, o_xd g M P S T → 5 * ((M 0 1).toNat - k) + 18 ≤ mc → 6 * (5 * ((M 0 1).toNat - k) + 18) ≤ ms → o_V l mL_sum (d + 10) o_no (y_x (.long (y_sum M)) M P S T) 99 [(0, .ref 0), (1, .long (q)), (3, .int (o_I ((k : Int))))] [] o_N (o_mem g) mc ms) (M 0 1).toNat (fun k hk ih_99 q hq g mc ms hx h1 h2 => by
        refine o_iload_n dL_sum_99 rfl ?_
        refine o_aload_n dL_sum_100 rfl ?_
        refine y_v _ (cv_lampCount hl d g M P S T hx hwf) dL_sum_101 ml_L_171 yw_X11_lampCount rfl (by decide) (by omega) (by omega) (by omega) (by decide) rfl rfl rfl (Nat.le_of_ble_eq_true rfl) (fun g hx => ?_)
        refine o_icmp_ge (tgt := 181) dL_sum_104 (by decide) ⟨by omega, by omega⟩ ⟨by omega, by omega⟩ (fun c_104 => ?_) (fun c_104 => ?_)
        · skip
          refine o_iconst dL_sum_181 ?_
          refine o_istore_n dL_sum_182 (by decide) ?_
          have key_183 := o_lp (fun k => ∀ (q : Int64), (q = y_hr M (y_hl M (y_hs M (M 0 0).toNat) (M 0 1).toNat) k) → ∀ g mc ms, o_xd g M P S T → 2 * ((M 0 6).toNat - k) + 2 ≤ mc → 6 * (2 * ((M 0 6).toNat - k) + 2) ≤ ms → o_V l mL_sum (d + 10) o_no (y_x (.long (y_sum M)) M P S T) 183 [(0, .ref 0), (1, .long (q)), (3, .int (o_I ((k : Int))))] [] o_N (o_mem g) mc ms) (M 0 6).toNat (fun k hk ih_183 q hq g mc ms hx h1 h2 => by
            refine o_iload_n dL_sum_183 rfl ?_
            refine o_aload_n dL_sum_184 rfl ?_
            refine y_v _ (cv_requestCount hl d g M P S T hx hwf) dL_sum_185 ml_L_274 yw_X11_requestCount rfl (by decide) (by omega) (by omega) (by omega) (by decide) rfl rfl rfl (Nat.le_of_ble_eq_true rfl) (fun g hx => ?_)
            refine o_icmp_ge (tgt := 220) dL_sum_188 (by decide) ⟨by omega, by omega⟩ ⟨by omega, by omega⟩ (fun c_188 => ?_) (fun c_188 => ?_)
            · skip
              refine o_lload_n dL_sum_220 rfl ?_
              refine o_ret1 dL_sum_221 trivial ?_
              rw [show q = y_sum M by rw [hq, show k = (M 0 6).toNat by omega]; rfl]
              exact ⟨rfl, ⟨g, rfl, hx⟩, rfl⟩
            · skip
              refine o_ldc2 (z := 53) dL_sum_191 lc_345 ?_
              refine o_lload_n dL_sum_194 rfl ?_
              refine o_lmul dL_sum_195 ?_
              refine o_bipush dL_sum_196 (by decide) ?_
              refine o_aload_n dL_sum_198 rfl ?_
              refine o_iload_n dL_sum_199 rfl ?_
              refine y_v _ (cv_requestedLamp hl d g M P S T hx hwf k (by omega)) dL_sum_200 ml_L_91 yw_X11_requestedLamp rfl (by decide) (by omega) (by omega) (by omega) (by decide) rfl rfl rfl (Nat.le_of_ble_eq_true rfl) (fun g hx => ?_)
              refine o_imul dL_sum_203 ?_
              refine o_i2l dL_sum_204 ?_
              refine o_ladd dL_sum_205 ?_
              refine o_aload_n dL_sum_206 rfl ?_
              refine o_iload_n dL_sum_207 rfl ?_
              refine y_v _ (cv_requestedHours hl d g M P S T hx hwf k (by omega)) dL_sum_208 ml_L_94 yw_X11_requestedHours rfl (by decide) (by omega) (by omega) (by omega) (by decide) rfl rfl rfl (Nat.le_of_ble_eq_true rfl) (fun g hx => ?_)
              refine o_i2l dL_sum_211 ?_
              refine o_ladd dL_sum_212 ?_
              refine o_lstore_n dL_sum_213 (by decide) ?_
              refine o_iinc dL_sum_214 rfl (by decide) ?_
              refine o_goto (tgt := 183) dL_sum_217 (by decide) ?_
              exact o_loc [(0, .ref 0), (1, .long (((((53 : Int64)) * (q)) + ((o_I ((100) * (M 9 k))).toInt64)) + ((o_I (M 10 k)).toInt64))), (3, .int (o_I (((k + 1 : Nat) : Int))))] rfl (ih_183 (by omega) (((((53 : Int64)) * (q)) + ((o_I ((100) * (M 9 k))).toInt64)) + ((o_I (M 10 k)).toInt64)) (by rw [hq]; rfl) g _ _ hx (by omega) (by omega)))
          exact o_loc [(0, .ref 0), (1, .long (q)), (3, .int (o_I (((0 : Nat) : Int))))] rfl (key_183 0 (Nat.zero_le _) (q) (by rw [hq, show k = (M 0 1).toNat by omega]; rfl) g _ _ hx (by omega) (by omega))
        · skip
          have fw := o_bcs (M 8 k = 1)
          refine o_ldc2 (z := 43) dL_sum_107 lc_339 ?_
          refine o_lload_n dL_sum_110 rfl ?_
          refine o_lmul dL_sum_111 ?_
          refine o_bipush dL_sum_112 (by decide) ?_
          refine o_aload_n dL_sum_114 rfl ?_
          refine o_iload_n dL_sum_115 rfl ?_
          refine y_v _ (cv_level hl d g M P S T hx hwf k (by omega)) dL_sum_116 ml_L_60 yw_X11_level rfl (by decide) (by omega) (by omega) (by omega) (by decide) rfl rfl rfl (Nat.le_of_ble_eq_true rfl) (fun g hx => ?_)
          refine o_imul dL_sum_119 ?_
          refine o_i2l dL_sum_120 ?_
          refine o_ladd dL_sum_121 ?_
          refine o_aload_n dL_sum_122 rfl ?_
          refine o_iload_n dL_sum_123 rfl ?_
          refine y_q _ (cl_lessee hl d g M P S T hx hwf k (by omega)) dL_sum_124 ml_L_201 ys_L_lessee rfl (by decide) (by omega) (by omega) (by omega) rfl (Nat.le_of_ble_eq_true rfl) (fun g hx => ?_)
          refine o_i2l dL_sum_127 ?_
          refine o_ladd dL_sum_128 ?_
          refine o_lstore_n dL_sum_129 (by decide) ?_
          refine o_ldc2 (z := 47) dL_sum_130 lc_341 ?_
          refine o_lload_n dL_sum_133 rfl ?_
          refine o_lmul dL_sum_134 ?_
          refine o_sipush dL_sum_135 (by decide) ?_
          refine o_aload_n dL_sum_138 rfl ?_
          refine o_iload_n dL_sum_139 rfl ?_
          refine y_q _ (cl_end hl d g M P S T hx hwf k (by omega)) dL_sum_140 ml_L_231 ys_L_end rfl (by decide) (by omega) (by omega) (by omega) rfl (Nat.le_of_ble_eq_true rfl) (fun g hx => ?_)
          refine o_imul dL_sum_143 ?_
          refine o_i2l dL_sum_144 ?_
          refine o_ladd dL_sum_145 ?_
          refine o_aload_n dL_sum_146 rfl ?_
          refine o_iload_n dL_sum_147 rfl ?_
          refine y_v _ (cv_brightHours hl d g M P S T hx hwf k (by omega)) dL_sum_148 ml_L_73 yw_X11_brightHours rfl (by decide) (by omega) (by omega) (by omega) (by decide) rfl rfl rfl (Nat.le_of_ble_eq_true rfl) (fun g hx => ?_)
          refine o_i2l dL_sum_151 ?_
          refine o_ladd dL_sum_152 ?_
          refine o_lstore_n dL_sum_153 (by decide) ?_
          refine o_ldc2 (z := 3) dL_sum_154 lc_343 ?_
          refine o_lload_n dL_sum_157 rfl ?_
          refine o_lmul dL_sum_158 ?_
          refine o_aload_n dL_sum_159 rfl ?_
          refine o_iload_n dL_sum_160 rfl ?_
          refine y_v _ (cv_wasBright hl d g M P S T hx hwf k (by omega)) dL_sum_161 ml_L_76 yw_X11_wasBright rfl (by decide) (by omega) (by omega) (by omega) (by decide) rfl rfl rfl (Nat.le_of_ble_eq_true rfl) (fun g hx => ?_)
          refine o_if_eq (tgt := 171) dL_sum_164 (by decide) ⟨by omega, by omega⟩ (fun c_164 => ?_) (fun c_164 => ?_)
          · skip
            refine o_iconst dL_sum_171 ?_
            refine o_i2l dL_sum_172 ?_
            refine o_ladd dL_sum_173 ?_
            refine o_lstore_n dL_sum_174 (by decide) ?_
            refine o_iinc dL_sum_175 rfl (by decide) ?_
            refine o_goto (tgt := 99) dL_sum_178 (by decide) ?_
            exact o_loc [(0, .ref 0), (1, .long ((((3 : Int64)) * (((((47 : Int64)) * (((((43 : Int64)) * (q)) + ((o_I ((10) * (M 4 k))).toInt64)) + ((o_I (v_les M k)).toInt64))) + ((o_I ((1000) * (v_end M k))).toInt64)) + ((o_I (M 7 k)).toInt64))) + ((o_I (0)).toInt64))), (3, .int (o_I (((k + 1 : Nat) : Int))))] rfl (ih_99 (by omega) ((((3 : Int64)) * (((((47 : Int64)) * (((((43 : Int64)) * (q)) + ((o_I ((10) * (M 4 k))).toInt64)) + ((o_I (v_les M k)).toInt64))) + ((o_I ((1000) * (v_end M k))).toInt64)) + ((o_I (M 7 k)).toInt64))) + ((o_I (0)).toInt64)) (by rw [hq]; simp only [y_hl]; first | rw [show o_b (M 8 k = 1) = 1 by omega] | rw [show o_b (M 8 k = 1) = 0 by omega]) g _ _ hx (by omega) (by omega))
          · skip
            refine o_iconst dL_sum_167 ?_
            refine o_goto (tgt := 172) dL_sum_168 (by decide) ?_
            refine o_i2l dL_sum_172 ?_
            refine o_ladd dL_sum_173 ?_
            refine o_lstore_n dL_sum_174 (by decide) ?_
            refine o_iinc dL_sum_175 rfl (by decide) ?_
            refine o_goto (tgt := 99) dL_sum_178 (by decide) ?_
            exact o_loc [(0, .ref 0), (1, .long ((((3 : Int64)) * (((((47 : Int64)) * (((((43 : Int64)) * (q)) + ((o_I ((10) * (M 4 k))).toInt64)) + ((o_I (v_les M k)).toInt64))) + ((o_I ((1000) * (v_end M k))).toInt64)) + ((o_I (M 7 k)).toInt64))) + ((o_I (1)).toInt64))), (3, .int (o_I (((k + 1 : Nat) : Int))))] rfl (ih_99 (by omega) ((((3 : Int64)) * (((((47 : Int64)) * (((((43 : Int64)) * (q)) + ((o_I ((10) * (M 4 k))).toInt64)) + ((o_I (v_les M k)).toInt64))) + ((o_I ((1000) * (v_end M k))).toInt64)) + ((o_I (M 7 k)).toInt64))) + ((o_I (1)).toInt64)) (by rw [hq]; simp only [y_hl]; first | rw [show o_b (M 8 k = 1) = 1 by omega] | rw [show o_b (M 8 k = 1) = 0 by omega]) g _ _ hx (by omega) (by omega)))
      exact o_loc [(0, .ref 0), (1, .long (q)), (3, .int (o_I (((0 : Nat) : Int))))] rfl (key_99 0 (Nat.zero_le _) (q) (by rw [hq, show k = (M 0 0).toNat by omega]; rfl) g _ _ hx (by omega) (by omega))
    · skip
      refine o_ldc2 (z := 37) dL_sum_54 lc_335 ?_
      refine o_lload_n dL_sum_57 rfl ?_
      refine o_lmul dL_sum_58 ?_
      refine o_sipush dL_sum_59 (by decide) ?_
      refine o_aload_n dL_sum_62 rfl ?_
      refine o_iload_n dL_sum_63 rfl ?_
      refine y_v _ (cv_coins hl d g M P S T hx hwf k (by omega)) dL_sum_64 ml_L_45 yw_X11_coins rfl (by decide) (by omega) (by omega) (by omega) (by decide) rfl rfl rfl (Nat.le_of_ble_eq_true rfl) (fun g hx => ?_)
      refine o_imul dL_sum_67 ?_
      refine o_i2l dL_sum_68 ?_
      refine o_ladd dL_sum_69 ?_
      refine o_aload_n dL_sum_70 rfl ?_
      refine o_iload_n dL_sum_71 rfl ?_
      refine y_v _ (cv_finesPaid hl d g M P S T hx hwf k (by omega)) dL_sum_72 ml_L_48 yw_X11_finesPaid rfl (by decide) (by omega) (by omega) (by omega) (by decide) rfl rfl rfl (Nat.le_of_ble_eq_true rfl) (fun g hx => ?_)
      refine o_i2l dL_sum_75 ?_
      refine o_ladd dL_sum_76 ?_
      refine o_lstore_n dL_sum_77 (by decide) ?_
      refine o_ldc2 (z := 41) dL_sum_78 lc_337 ?_
      refine o_lload_n dL_sum_81 rfl ?_
      refine o_lmul dL_sum_82 ?_
      refine o_aload_n dL_sum_83 rfl ?_
      refine o_iload_n dL_sum_84 rfl ?_
      refine y_v _ (cv_darkHours hl d g M P S T hx hwf k (by omega)) dL_sum_85 ml_L_51 yw_X11_darkHours rfl (by decide) (by omega) (by omega) (by omega) (by decide) rfl rfl rfl (Nat.le_of_ble_eq_true rfl) (fun g hx => ?_)
      refine o_i2l dL_sum_88 ?_
      refine o_ladd dL_sum_89 ?_
      refine o_lstore_n dL_sum_90 (by decide) ?_
      refine o_iinc dL_sum_91 rfl (by decide) ?_
      refine o_goto (tgt := 46) dL_sum_94 (by decide) ?_
      exact o_loc [(0, .ref 0), (1, .long ((((41 : Int64)) * (((((37 : Int64)) * (q)) + ((o_I ((1000) * (M 1 k))).toInt64)) + ((o_I (M 2 k)).toInt64))) + ((o_I (M 3 k)).toInt64))), (3, .int (o_I (((k + 1 : Nat) : Int))))] rfl (ih_46 (by omega) ((((41 : Int64)) * (((((37 : Int64)) * (q)) + ((o_I ((1000) * (M 1 k))).toInt64)) + ((o_I (M 2 k)).toInt64))) + ((o_I (M 3 k)).toInt64)) (by rw [hq]; rfl) g _ _ hx (by omega) (by omega)))
  exact o_loc [(0, .ref 0), (1, .long (((((31 : Int64)) * ((((31 : Int64)) * (((7 : Int64)) + ((o_I (M 0 3)).toInt64))) + ((o_I (M 0 2)).toInt64))) + ((o_I ((1000) * (M 0 4))).toInt64)) + ((o_I (M 0 5)).toInt64))), (3, .int (o_I (((0 : Nat) : Int))))] rfl (key_46 0 (Nat.zero_le _) (((((31 : Int64)) * ((((31 : Int64)) * (((7 : Int64)) + ((o_I (M 0 3)).toInt64))) + ((o_I (M 0 2)).toInt64))) + ((o_I ((1000) * (M 0 4))).toInt64)) + ((o_I (M 0 5)).toInt64)) (rfl) g _ _ hx (by omega) (by omega))

/-! the law's helpers -/
section HS
variable {l : Launch} {M : o_M} {d : Nat} {al : Nat → Prop} {post : o_P} {pc : Nat} {ls : List (Nat × Value)} {st : List Value} {mc ms : Nat} {g : Nat → Nat → Int}
/-- the answer is put aside -/
theorem h_last {v : Int} {z : Int64} (hz : z = Int64.ofInt v) (hd : decode M.2.1 pc = .ok (.lastore, 1)) (k9 : ∀ g1, g1 = o_e g 201 0 v → o_V l M d al post (pc + 1) ls st o_N (o_mem g1) mc ms) : o_V l M d al post pc ls (.long z :: .int (o_I 0) :: .ref 201 :: st) o_N (o_mem g) mc ms := by
  subst hz
  refine o_last (f := fun j => Int64.ofInt (g 201 j)) (len := 1) (h' := o_mem (o_e g 201 0 v)) hd (by decide) rfl (by decide) (by decide) (by decide) ?_ (k9 _ rfl)
  rw [← o_ew]
  refine o_mw ?_ (by unfold o_w; rw [if_neg (by decide)])
  show (Sum.inl (4, 1, .inr (.inl (vp_updL (fun j => Int64.ofInt (g 201 j)) (0 : Int).toNat (Int64.ofInt v)))) : o_C) = (Sum.inl (4, 1, .inr (.inl (fun j => Int64.ofInt (o_u (g 201) 0 v j)))) : o_C)
  rw [show vp_updL (fun j => Int64.ofInt (g 201 j)) (0 : Int).toNat (Int64.ofInt v) = fun j => Int64.ofInt (o_u (g 201) 0 v j) from (funext fun j => by
    unfold vp_updL o_u
    by_cases h : j = 0
    · subst h; simp
    · simp [h])]
theorem h_dast {x : UInt64} (hd : decode M.2.1 pc = .ok (.dastore, 1)) (k9 : ∀ g1, g1 = o_e g 202 0 (x.toNat : Int) → o_V l M d al post (pc + 1) ls st o_N (o_mem g1) mc ms) : o_V l M d al post pc ls (.double x :: .int (o_I 0) :: .ref 202 :: st) o_N (o_mem g) mc ms := by
  refine o_dast (f := fun j => UInt64.ofNat (g 202 j).toNat) (len := 1) (h' := o_mem (o_e g 202 0 (x.toNat : Int))) hd (by decide) rfl (by decide) (by decide) (by decide) ?_ (k9 _ rfl)
  rw [← o_ew]
  refine o_mw ?_ (by unfold o_w; rw [if_neg (by decide)])
  show (Sum.inl (5, 1, .inr (.inr (.inr (.inl (vf_upd (fun j => UInt64.ofNat (g 202 j).toNat) (0 : Int).toNat x))))) : o_C) = (Sum.inl (5, 1, .inr (.inr (.inr (.inl (fun j => UInt64.ofNat (o_u (g 202) 0 (x.toNat : Int) j).toNat))))) : o_C)
  rw [show vf_upd (fun j => UInt64.ofNat (g 202 j).toNat) (0 : Int).toNat x = fun j => UInt64.ofNat (o_u (g 202) 0 (x.toNat : Int) j).toNat from (funext fun j => by
    by_cases h : j = 0
    · subst h
      show x = UInt64.ofNat (o_u (g 202) 0 (x.toNat : Int) 0).toNat
      unfold o_u
      rw [if_pos rfl, Int.toNat_natCast, UInt64.ofNat_toNat]
    · show (if j = 0 then x else UInt64.ofNat (g 202 j).toNat) = _
      unfold o_u
      rw [if_neg h, if_neg h])]
/-- the handlers -/
theorem h_onN {n : Nat} {h : Nat → o_C} {E : String} {pre suf : List (Nat × Nat × Nat × Nat)} {a b hpc ct i : Nat} {k : Fin 4} (hsp : M.2.2.2.2.1 = pre ++ (a, b, hpc, ct) :: suf) (hpass : ∀ z ∈ pre, z.2.2.2 ≠ 0 ∧ ∃ nm, Cond.classLink M.1 z.2.2.2 nm ∈ o_gW ∧ (E, nm) ∈ o_ncs) (hcov : a ≤ pc ∧ pc < b) (h0 : ct ≠ 0) (hlink : Cond.classLink M.1 ct E ∈ o_gW) (hex : E ∈ o_exs) (hi : i < M.2.2.1)
    (hk : (k : Nat) = i) (hd : decode M.2.1 hpc = .ok (.astore_n k, 1)) (hls : ∀ q ∈ ls, q.1 ≠ i ∧ (q.1 + 1 = i → q.2.category ≠ 2)) (k1 : o_V l M d al post (hpc + 1) ls [] n h mc ms) : o_T l M d al post pc ls E n h mc ms :=
  o_T.on hsp hpass hcov h0 hlink hex hi (Or.inl ⟨k, hk, hd⟩) hls (fun _ => k1) (fun h9 => by rw [hd] at h9; cases h9)
theorem h_onS {n : Nat} {h : Nat → o_C} {E : String} {pre suf : List (Nat × Nat × Nat × Nat)} {a b hpc ct i : Nat} (hsp : M.2.2.2.2.1 = pre ++ (a, b, hpc, ct) :: suf) (hpass : ∀ z ∈ pre, z.2.2.2 ≠ 0 ∧ ∃ nm, Cond.classLink M.1 z.2.2.2 nm ∈ o_gW ∧ (E, nm) ∈ o_ncs) (hcov : a ≤ pc ∧ pc < b) (h0 : ct ≠ 0) (hlink : Cond.classLink M.1 ct E ∈ o_gW) (hex : E ∈ o_exs) (hi : i < M.2.2.1)
    (hd : decode M.2.1 hpc = .ok (.astore i, 2)) (hls : ∀ q ∈ ls, q.1 ≠ i ∧ (q.1 + 1 = i → q.2.category ≠ 2)) (k1 : o_V l M d al post (hpc + 2) ls [] n h mc ms) : o_T l M d al post pc ls E n h mc ms :=
  o_T.on hsp hpass hcov h0 hlink hex hi (Or.inr hd) hls (fun h9 => by obtain ⟨k, -, h9⟩ := h9; rw [hd] at h9; cases h9) (fun _ => k1)
end HS
/-- what a helper may write -/
def h_f9 : Nat → Prop := fun a => a ≤ 191 ∨ a = 201 ∨ a = 202
theorem h_xd_c {g g' M : Nat → Nat → Int} {P : List (Nat → Nat → Int)} {S : Option (Nat → Nat → Int)} {T : Nat → Nat → Int} (h : o_xd g M P S T) (f : o_fr (fun a => 192 ≤ a) g g') : o_xd g' M P S T :=
  ⟨o_st_c h.1 (fun a a1 a2 => f a (by omega)), o_hs_c h.2.1 (fun a a1 a2 => f a (by omega)), x_m3_c h.2.2.1 (by rw [f 0 (by omega)]) (fun a a1 a2 => f a (by omega)), x_m4_c h.2.2.2 (fun j _ => by rw [f 0 (by omega)]) (by rw [f 163 (by omega)]) (f 164 (by omega)) (f 190 (by omega)) (f 191 (by omega))⟩
/-- the end of a helper: the answer is the place of the exception, 0 where none; the cell a holds v -/
def h_x (k : Int) (a : Nat) (v : Int) (M' : Nat → Nat → Int) (P' : List (Nat → Nat → Int)) (S' : Option (Nat → Nat → Int)) (T' g : Nat → Nat → Int) : o_P := o_mt (some (.int (o_I k))) (fun g' => o_xd g' M' P' S' T' ∧ o_fr h_f9 g g' ∧ (k = 0 → g' a 0 = v))
theorem h_fr {g g' : Nat → Nat → Int} {a : Nat} {v : Int} (f : o_fr x_f9 g g') (ha : a = 201 ∨ a = 202) : o_fr h_f9 g (o_e g' a 0 v) := fun b hb => by
  have e : o_e g' a 0 v b = g' b := by
    funext j
    unfold o_e
    rw [if_neg (fun q => hb (by show b ≤ 191 ∨ b = 201 ∨ b = 202; omega))]
  rw [e]
  exact f b (fun q => hb (Or.inl q))
theorem h_ok {g g' M' T' : Nat → Nat → Int} {P' : List (Nat → Nat → Int)} {S' : Option (Nat → Nat → Int)} {k v : Int} {a : Nat} (hk : k = 0) (ha : a = 201 ∨ a = 202) (hx : o_xd g' M' P' S' T') (f : o_fr x_f9 g g') : h_x k a v M' P' S' T' g (.inl (some (.int (o_I 0)))) o_N (o_mem (o_e g' a 0 v)) := by
  refine ⟨by rw [hk], rfl, _, rfl, h_xd_c hx (fun b hb => ?_), h_fr f ha, fun _ => by unfold o_e; simp⟩
  funext j
  unfold o_e
  rw [if_neg (fun q => hb (by show 192 ≤ b; omega))]
theorem h_no {g g' M' T' : Nat → Nat → Int} {P' : List (Nat → Nat → Int)} {S' : Option (Nat → Nat → Int)} {k k' v : Int} {a : Nat} (hk : k = k') (h0 : k ≠ 0) (hx : o_xd g' M' P' S' T') (f : o_fr x_f9 g g') : h_x k a v M' P' S' T' g (.inl (some (.int (o_I k')))) o_N (o_mem g') :=
  ⟨by rw [hk], rfl, g', rfl, hx, o_fr_m f (fun _ ha => Or.inl ha), fun q => absurd q h0⟩
theorem hl_13 : Cond.classLink RL 13 "java/lang/IllegalStateException" ∈ o_gW := o_gT (i := 896) (by decide +kernel) rfl
theorem hl_19 : Cond.classLink RL 19 "java/lang/IllegalArgumentException" ∈ o_gW := o_gT (i := 984) (by decide +kernel) rfl
theorem hl_28 : Cond.classLink RL 28 "java/lang/IndexOutOfBoundsException" ∈ o_gW := o_gT (i := 1015) (by decide +kernel) rfl
theorem hl_30 : Cond.classLink RL 30 "java/lang/UnsupportedOperationException" ∈ o_gW := o_gT (i := 1018) (by decide +kernel) rfl
theorem hl_36 : Cond.classLink RL 36 "java/util/NoSuchElementException" ∈ o_gW := o_gT (i := 1055) (by decide +kernel) rfl
theorem hl_106 : Cond.classLink RL 106 "java/lang/ArithmeticException" ∈ o_gW := o_gT (i := 1340) (by decide +kernel) rfl
set_option maxRecDepth 100000 in
set_option maxHeartbeats 4000000 in
/-- the law's addShip -/
theorem ct_L_addShip {l : Launch} (hl : l.stackTraces = false) (d : Nat) (g M' : Nat → Nat → Int) (P' : List (Nat → Nat → Int)) (S' : Option (Nat → Nat → Int)) (T' : Nat → Nat → Int) (k : Int) (hk0 : 0 ≤ k) (v : Int) (hC : o_Ct l yX11_addShip wX11_addShip d o_no [.ref 0] o_N (o_mem g) 1 6 (x_x ["java/lang/IllegalStateException"] k (.int (o_I v)) M' P' S' T' g)) : o_Ct l yL_addShip wL_addShip (d + 1) o_no [.ref 0, .ref 201] o_N (o_mem g) 1 6 (h_x k 201 ((o_I v).toInt) M' P' S' T' g) := by
  refine o_Ct.ofVH hl mL_addShip (by decide +kernel) rfl rfl (Nat.le_of_ble_eq_true rfl) ?_
  refine o_loc [(0, .ref 0), (1, .ref 201)] rfl ?_
  refine o_aload_n dL_addShip_0 rfl ?_
  refine o_iconst dL_addShip_1 ?_
  refine o_aload_n dL_addShip_2 rfl ?_
  refine o_callV [] (rest := [.int (o_I 0), .ref 201]) hC dL_addShip_3 ml_L_7 yw_X11_addShip rfl (by decide) (by omega) (by decide) (by decide) (by decide) rfl rfl rfl (Nat.le_of_ble_eq_true rfl) (fun _ z => z.elim) (fun _ z => z.elim) (Or.inl fun _ z => z) (fun v9 n9 h9 q9 => ?_) (fun E n9 h9 q9 => ?_)
  · obtain ⟨rfl, ⟨g', rfl, hx9, hf9⟩, q⟩ := q9
    obtain ⟨hk, q⟩ := q.resolve_right (fun z => by obtain ⟨E', -, -, z⟩ := z; cases z)
    cases q
    refine o_i2l dL_addShip_6 ?_
    refine h_last (v := (o_I v).toInt) (Int64.ofInt_int32ToInt _).symm dL_addShip_7 (fun g1 e9 => ?_)
    refine o_goto (tgt := 14) dL_addShip_8 (by decide) ?_
    refine o_iconst dL_addShip_14 ?_
    refine o_ret1 dL_addShip_15 trivial ?_
    subst e9
    exact h_ok hk (Or.inl rfl) hx9 hf9
  · obtain ⟨rfl, ⟨g', rfl, hx9, hf9⟩, q⟩ := q9
    rcases q with ⟨-, q⟩ | ⟨E', hk, hE, q⟩
    · cases q
    cases q
    obtain ⟨m9, hm9⟩ : ∃ m9 : Nat, (k - 1).toNat = m9 := ⟨_, rfl⟩
    rw [hm9] at hE
    rcases m9 with _ | m9
    · cases hE
      refine h_onN (k := 2) (pre := []) (suf := []) (a := 0) (b := 8) (hpc := 11) (ct := 13) (i := 2) rfl (fun _ h9 => absurd h9 List.not_mem_nil) ⟨by decide, by decide⟩ (by decide) hl_13 (List.mem_of_getElem? (i := 2) rfl) (by decide) rfl dL_addShip_11 (List.forall_mem_cons.mpr ⟨⟨(show (0 : Nat) ≠ 2 by decide), fun _ => (show (1 : Nat) ≠ 2 by decide)⟩, (List.forall_mem_cons.mpr ⟨⟨(show (1 : Nat) ≠ 2 by decide), fun _ => (show (1 : Nat) ≠ 2 by decide)⟩, (fun _ h9 => absurd h9 List.not_mem_nil)⟩)⟩) ?_
      refine o_iconst dL_addShip_12 ?_
      refine o_ret1 dL_addShip_13 trivial ?_
      exact h_no (by omega) hk hx9 hf9
    · cases hE
set_option maxRecDepth 100000 in
set_option maxHeartbeats 4000000 in
/-- the law's addLamp -/
theorem ct_L_addLamp {l : Launch} (hl : l.stackTraces = false) (d : Nat) (g M' : Nat → Nat → Int) (P' : List (Nat → Nat → Int)) (S' : Option (Nat → Nat → Int)) (T' : Nat → Nat → Int) (k : Int) (hk0 : 0 ≤ k) (v : Int) (i : Int) (hC : o_Ct l yX11_addLamp wX11_addLamp d o_no [.ref 0, .int (o_I i)] o_N (o_mem g) 1 6 (x_x ["java/lang/IllegalArgumentException", "java/lang/IllegalStateException"] k (.int (o_I v)) M' P' S' T' g)) : o_Ct l yL_addLamp wL_addLamp (d + 1) o_no [.ref 0, .int (o_I i), .ref 201] o_N (o_mem g) 1 6 (h_x k 201 ((o_I v).toInt) M' P' S' T' g) := by
  refine o_Ct.ofVH hl mL_addLamp (by decide +kernel) rfl rfl (Nat.le_of_ble_eq_true rfl) ?_
  refine o_loc [(0, .ref 0), (1, .int (o_I i)), (2, .ref 201)] rfl ?_
  refine o_aload_n dL_addLamp_0 rfl ?_
  refine o_iconst dL_addLamp_1 ?_
  refine o_aload_n dL_addLamp_2 rfl ?_
  refine o_iload_n dL_addLamp_3 rfl ?_
  refine o_callV [.int (o_I i)] (rest := [.int (o_I 0), .ref 201]) hC dL_addLamp_4 ml_L_15 yw_X11_addLamp rfl (by decide) (by omega) (by decide) (by decide) (by decide) rfl rfl rfl (Nat.le_of_ble_eq_true rfl) (fun _ z => z.elim) (fun _ z => z.elim) (Or.inl fun _ z => z) (fun v9 n9 h9 q9 => ?_) (fun E n9 h9 q9 => ?_)
  · obtain ⟨rfl, ⟨g', rfl, hx9, hf9⟩, q⟩ := q9
    obtain ⟨hk, q⟩ := q.resolve_right (fun z => by obtain ⟨E', -, -, z⟩ := z; cases z)
    cases q
    refine o_i2l dL_addLamp_7 ?_
    refine h_last (v := (o_I v).toInt) (Int64.ofInt_int32ToInt _).symm dL_addLamp_8 (fun g1 e9 => ?_)
    refine o_goto (tgt := 18) dL_addLamp_9 (by decide) ?_
    refine o_iconst dL_addLamp_18 ?_
    refine o_ret1 dL_addLamp_19 trivial ?_
    subst e9
    exact h_ok hk (Or.inl rfl) hx9 hf9
  · obtain ⟨rfl, ⟨g', rfl, hx9, hf9⟩, q⟩ := q9
    rcases q with ⟨-, q⟩ | ⟨E', hk, hE, q⟩
    · cases q
    cases q
    obtain ⟨m9, hm9⟩ : ∃ m9 : Nat, (k - 1).toNat = m9 := ⟨_, rfl⟩
    rw [hm9] at hE
    rcases m9 with _ | _ | m9
    · cases hE
      refine h_onN (k := 3) (pre := []) (suf := [(0, 9, 15, 13)]) (a := 0) (b := 9) (hpc := 12) (ct := 19) (i := 3) rfl (fun _ h9 => absurd h9 List.not_mem_nil) ⟨by decide, by decide⟩ (by decide) hl_19 (List.mem_of_getElem? (i := 1) rfl) (by decide) rfl dL_addLamp_12 (List.forall_mem_cons.mpr ⟨⟨(show (0 : Nat) ≠ 3 by decide), fun _ => (show (1 : Nat) ≠ 2 by decide)⟩, (List.forall_mem_cons.mpr ⟨⟨(show (1 : Nat) ≠ 3 by decide), fun _ => (show (1 : Nat) ≠ 2 by decide)⟩, (List.forall_mem_cons.mpr ⟨⟨(show (2 : Nat) ≠ 3 by decide), fun _ => (show (1 : Nat) ≠ 2 by decide)⟩, (fun _ h9 => absurd h9 List.not_mem_nil)⟩)⟩)⟩) ?_
      refine o_iconst dL_addLamp_13 ?_
      refine o_ret1 dL_addLamp_14 trivial ?_
      exact h_no (by omega) hk hx9 hf9
    · cases hE
      refine h_onN (k := 3) (pre := [(0, 9, 12, 19)]) (suf := []) (a := 0) (b := 9) (hpc := 15) (ct := 13) (i := 3) rfl (List.forall_mem_cons.mpr ⟨⟨(show (19 : Nat) ≠ 0 by decide), _, hl_19, List.mem_of_getElem? (i := 0) rfl⟩, (fun _ h9 => absurd h9 List.not_mem_nil)⟩) ⟨by decide, by decide⟩ (by decide) hl_13 (List.mem_of_getElem? (i := 2) rfl) (by decide) rfl dL_addLamp_15 (List.forall_mem_cons.mpr ⟨⟨(show (0 : Nat) ≠ 3 by decide), fun _ => (show (1 : Nat) ≠ 2 by decide)⟩, (List.forall_mem_cons.mpr ⟨⟨(show (1 : Nat) ≠ 3 by decide), fun _ => (show (1 : Nat) ≠ 2 by decide)⟩, (List.forall_mem_cons.mpr ⟨⟨(show (2 : Nat) ≠ 3 by decide), fun _ => (show (1 : Nat) ≠ 2 by decide)⟩, (fun _ h9 => absurd h9 List.not_mem_nil)⟩)⟩)⟩) ?_
      refine o_iconst dL_addLamp_16 ?_
      refine o_ret1 dL_addLamp_17 trivial ?_
      exact h_no (by omega) hk hx9 hf9
    · cases hE
set_option maxRecDepth 100000 in
set_option maxHeartbeats 4000000 in
/-- the law's addOil -/
theorem ct_L_addOil {l : Launch} (hl : l.stackTraces = false) (d : Nat) (g M' : Nat → Nat → Int) (P' : List (Nat → Nat → Int)) (S' : Option (Nat → Nat → Int)) (T' : Nat → Nat → Int) (k : Int) (hk0 : 0 ≤ k) (v : Int) (i : Int) (hC : o_Ct l yX11_addOil wX11_addOil d o_no [.ref 0, .int (o_I i)] o_N (o_mem g) 1 6 (x_x ["java/lang/IllegalArgumentException", "java/lang/IllegalStateException"] k (.int (o_I v)) M' P' S' T' g)) : o_Ct l yL_addOil wL_addOil (d + 1) o_no [.ref 0, .int (o_I i), .ref 201] o_N (o_mem g) 1 6 (h_x k 201 ((o_I v).toInt) M' P' S' T' g) := by
  refine o_Ct.ofVH hl mL_addOil (by decide +kernel) rfl rfl (Nat.le_of_ble_eq_true rfl) ?_
  refine o_loc [(0, .ref 0), (1, .int (o_I i)), (2, .ref 201)] rfl ?_
  refine o_aload_n dL_addOil_0 rfl ?_
  refine o_iconst dL_addOil_1 ?_
  refine o_aload_n dL_addOil_2 rfl ?_
  refine o_iload_n dL_addOil_3 rfl ?_
  refine o_callV [.int (o_I i)] (rest := [.int (o_I 0), .ref 201]) hC dL_addOil_4 ml_L_21 yw_X11_addOil rfl (by decide) (by omega) (by decide) (by decide) (by decide) rfl rfl rfl (Nat.le_of_ble_eq_true rfl) (fun _ z => z.elim) (fun _ z => z.elim) (Or.inl fun _ z => z) (fun v9 n9 h9 q9 => ?_) (fun E n9 h9 q9 => ?_)
  · obtain ⟨rfl, ⟨g', rfl, hx9, hf9⟩, q⟩ := q9
    obtain ⟨hk, q⟩ := q.resolve_right (fun z => by obtain ⟨E', -, -, z⟩ := z; cases z)
    cases q
    refine o_i2l dL_addOil_7 ?_
    refine h_last (v := (o_I v).toInt) (Int64.ofInt_int32ToInt _).symm dL_addOil_8 (fun g1 e9 => ?_)
    refine o_goto (tgt := 18) dL_addOil_9 (by decide) ?_
    refine o_iconst dL_addOil_18 ?_
    refine o_ret1 dL_addOil_19 trivial ?_
    subst e9
    exact h_ok hk (Or.inl rfl) hx9 hf9
  · obtain ⟨rfl, ⟨g', rfl, hx9, hf9⟩, q⟩ := q9
    rcases q with ⟨-, q⟩ | ⟨E', hk, hE, q⟩
    · cases q
    cases q
    obtain ⟨m9, hm9⟩ : ∃ m9 : Nat, (k - 1).toNat = m9 := ⟨_, rfl⟩
    rw [hm9] at hE
    rcases m9 with _ | _ | m9
    · cases hE
      refine h_onN (k := 3) (pre := []) (suf := [(0, 9, 15, 13)]) (a := 0) (b := 9) (hpc := 12) (ct := 19) (i := 3) rfl (fun _ h9 => absurd h9 List.not_mem_nil) ⟨by decide, by decide⟩ (by decide) hl_19 (List.mem_of_getElem? (i := 1) rfl) (by decide) rfl dL_addOil_12 (List.forall_mem_cons.mpr ⟨⟨(show (0 : Nat) ≠ 3 by decide), fun _ => (show (1 : Nat) ≠ 2 by decide)⟩, (List.forall_mem_cons.mpr ⟨⟨(show (1 : Nat) ≠ 3 by decide), fun _ => (show (1 : Nat) ≠ 2 by decide)⟩, (List.forall_mem_cons.mpr ⟨⟨(show (2 : Nat) ≠ 3 by decide), fun _ => (show (1 : Nat) ≠ 2 by decide)⟩, (fun _ h9 => absurd h9 List.not_mem_nil)⟩)⟩)⟩) ?_
      refine o_iconst dL_addOil_13 ?_
      refine o_ret1 dL_addOil_14 trivial ?_
      exact h_no (by omega) hk hx9 hf9
    · cases hE
      refine h_onN (k := 3) (pre := [(0, 9, 12, 19)]) (suf := []) (a := 0) (b := 9) (hpc := 15) (ct := 13) (i := 3) rfl (List.forall_mem_cons.mpr ⟨⟨(show (19 : Nat) ≠ 0 by decide), _, hl_19, List.mem_of_getElem? (i := 0) rfl⟩, (fun _ h9 => absurd h9 List.not_mem_nil)⟩) ⟨by decide, by decide⟩ (by decide) hl_13 (List.mem_of_getElem? (i := 2) rfl) (by decide) rfl dL_addOil_15 (List.forall_mem_cons.mpr ⟨⟨(show (0 : Nat) ≠ 3 by decide), fun _ => (show (1 : Nat) ≠ 2 by decide)⟩, (List.forall_mem_cons.mpr ⟨⟨(show (1 : Nat) ≠ 3 by decide), fun _ => (show (1 : Nat) ≠ 2 by decide)⟩, (List.forall_mem_cons.mpr ⟨⟨(show (2 : Nat) ≠ 3 by decide), fun _ => (show (1 : Nat) ≠ 2 by decide)⟩, (fun _ h9 => absurd h9 List.not_mem_nil)⟩)⟩)⟩) ?_
      refine o_iconst dL_addOil_16 ?_
      refine o_ret1 dL_addOil_17 trivial ?_
      exact h_no (by omega) hk hx9 hf9
    · cases hE
set_option maxRecDepth 100000 in
set_option maxHeartbeats 4000000 in
/-- the law's lease -/
theorem ct_L_lease {l : Launch} (hl : l.stackTraces = false) (d : Nat) (g M' : Nat → Nat → Int) (P' : List (Nat → Nat → Int)) (S' : Option (Nat → Nat → Int)) (T' : Nat → Nat → Int) (k : Int) (hk0 : 0 ≤ k) (v : Int) (i : Int) (j : Int) (q : Int) (hC : o_Ct l yX11_lease wX11_lease d o_no [.ref 0, .int (o_I i), .int (o_I j), .int (o_I q)] o_N (o_mem g) 1 6 (x_x ["java/lang/IndexOutOfBoundsException", "java/lang/IllegalArgumentException", "java/lang/IllegalStateException", "java/lang/UnsupportedOperationException"] k (.int (o_I v)) M' P' S' T' g)) : o_Ct l yL_lease wL_lease (d + 1) o_no [.ref 0, .int (o_I i), .int (o_I j), .int (o_I q), .ref 201] o_N (o_mem g) 1 6 (h_x k 201 ((o_I v).toInt) M' P' S' T' g) := by
  refine o_Ct.ofVH hl mL_lease (by decide +kernel) rfl rfl (Nat.le_of_ble_eq_true rfl) ?_
  refine o_loc [(0, .ref 0), (1, .int (o_I i)), (2, .int (o_I j)), (3, .int (o_I q)), (4, .ref 201)] rfl ?_
  refine o_aload dL_lease_0 rfl ?_
  refine o_iconst dL_lease_2 ?_
  refine o_aload_n dL_lease_3 rfl ?_
  refine o_iload_n dL_lease_4 rfl ?_
  refine o_iload_n dL_lease_5 rfl ?_
  refine o_iload_n dL_lease_6 rfl ?_
  refine o_callV [.int (o_I i), .int (o_I j), .int (o_I q)] (rest := [.int (o_I 0), .ref 201]) hC dL_lease_7 ml_L_24 yw_X11_lease rfl (by decide) (by omega) (by decide) (by decide) (by decide) rfl rfl rfl (Nat.le_of_ble_eq_true rfl) (fun _ z => z.elim) (fun _ z => z.elim) (Or.inl fun _ z => z) (fun v9 n9 h9 q9 => ?_) (fun E n9 h9 q9 => ?_)
  · obtain ⟨rfl, ⟨g', rfl, hx9, hf9⟩, q⟩ := q9
    obtain ⟨hk, q⟩ := q.resolve_right (fun z => by obtain ⟨E', -, -, z⟩ := z; cases z)
    cases q
    refine o_i2l dL_lease_10 ?_
    refine h_last (v := (o_I v).toInt) (Int64.ofInt_int32ToInt _).symm dL_lease_11 (fun g1 e9 => ?_)
    refine o_goto (tgt := 31) dL_lease_12 (by decide) ?_
    refine o_iconst dL_lease_31 ?_
    refine o_ret1 dL_lease_32 trivial ?_
    subst e9
    exact h_ok hk (Or.inl rfl) hx9 hf9
  · obtain ⟨rfl, ⟨g', rfl, hx9, hf9⟩, q⟩ := q9
    rcases q with ⟨-, q⟩ | ⟨E', hk, hE, q⟩
    · cases q
    cases q
    obtain ⟨m9, hm9⟩ : ∃ m9 : Nat, (k - 1).toNat = m9 := ⟨_, rfl⟩
    rw [hm9] at hE
    rcases m9 with _ | _ | _ | _ | m9
    · cases hE
      refine h_onS (pre := []) (suf := [(0, 12, 19, 19), (0, 12, 23, 13), (0, 12, 27, 30)]) (a := 0) (b := 12) (hpc := 15) (ct := 28) (i := 5) rfl (fun _ h9 => absurd h9 List.not_mem_nil) ⟨by decide, by decide⟩ (by decide) hl_28 (List.mem_of_getElem? (i := 0) rfl) (by decide) dL_lease_15 (List.forall_mem_cons.mpr ⟨⟨(show (0 : Nat) ≠ 5 by decide), fun _ => (show (1 : Nat) ≠ 2 by decide)⟩, (List.forall_mem_cons.mpr ⟨⟨(show (1 : Nat) ≠ 5 by decide), fun _ => (show (1 : Nat) ≠ 2 by decide)⟩, (List.forall_mem_cons.mpr ⟨⟨(show (2 : Nat) ≠ 5 by decide), fun _ => (show (1 : Nat) ≠ 2 by decide)⟩, (List.forall_mem_cons.mpr ⟨⟨(show (3 : Nat) ≠ 5 by decide), fun _ => (show (1 : Nat) ≠ 2 by decide)⟩, (List.forall_mem_cons.mpr ⟨⟨(show (4 : Nat) ≠ 5 by decide), fun _ => (show (1 : Nat) ≠ 2 by decide)⟩, (fun _ h9 => absurd h9 List.not_mem_nil)⟩)⟩)⟩)⟩)⟩) ?_
      refine o_iconst dL_lease_17 ?_
      refine o_ret1 dL_lease_18 trivial ?_
      exact h_no (by omega) hk hx9 hf9
    · cases hE
      refine h_onS (pre := [(0, 12, 15, 28)]) (suf := [(0, 12, 23, 13), (0, 12, 27, 30)]) (a := 0) (b := 12) (hpc := 19) (ct := 19) (i := 5) rfl (List.forall_mem_cons.mpr ⟨⟨(show (28 : Nat) ≠ 0 by decide), _, hl_28, List.mem_of_getElem? (i := 1) rfl⟩, (fun _ h9 => absurd h9 List.not_mem_nil)⟩) ⟨by decide, by decide⟩ (by decide) hl_19 (List.mem_of_getElem? (i := 1) rfl) (by decide) dL_lease_19 (List.forall_mem_cons.mpr ⟨⟨(show (0 : Nat) ≠ 5 by decide), fun _ => (show (1 : Nat) ≠ 2 by decide)⟩, (List.forall_mem_cons.mpr ⟨⟨(show (1 : Nat) ≠ 5 by decide), fun _ => (show (1 : Nat) ≠ 2 by decide)⟩, (List.forall_mem_cons.mpr ⟨⟨(show (2 : Nat) ≠ 5 by decide), fun _ => (show (1 : Nat) ≠ 2 by decide)⟩, (List.forall_mem_cons.mpr ⟨⟨(show (3 : Nat) ≠ 5 by decide), fun _ => (show (1 : Nat) ≠ 2 by decide)⟩, (List.forall_mem_cons.mpr ⟨⟨(show (4 : Nat) ≠ 5 by decide), fun _ => (show (1 : Nat) ≠ 2 by decide)⟩, (fun _ h9 => absurd h9 List.not_mem_nil)⟩)⟩)⟩)⟩)⟩) ?_
      refine o_iconst dL_lease_21 ?_
      refine o_ret1 dL_lease_22 trivial ?_
      exact h_no (by omega) hk hx9 hf9
    · cases hE
      refine h_onS (pre := [(0, 12, 15, 28), (0, 12, 19, 19)]) (suf := [(0, 12, 27, 30)]) (a := 0) (b := 12) (hpc := 23) (ct := 13) (i := 5) rfl (List.forall_mem_cons.mpr ⟨⟨(show (28 : Nat) ≠ 0 by decide), _, hl_28, List.mem_of_getElem? (i := 2) rfl⟩, (List.forall_mem_cons.mpr ⟨⟨(show (19 : Nat) ≠ 0 by decide), _, hl_19, List.mem_of_getElem? (i := 0) rfl⟩, (fun _ h9 => absurd h9 List.not_mem_nil)⟩)⟩) ⟨by decide, by decide⟩ (by decide) hl_13 (List.mem_of_getElem? (i := 2) rfl) (by decide) dL_lease_23 (List.forall_mem_cons.mpr ⟨⟨(show (0 : Nat) ≠ 5 by decide), fun _ => (show (1 : Nat) ≠ 2 by decide)⟩, (List.forall_mem_cons.mpr ⟨⟨(show (1 : Nat) ≠ 5 by decide), fun _ => (show (1 : Nat) ≠ 2 by decide)⟩, (List.forall_mem_cons.mpr ⟨⟨(show (2 : Nat) ≠ 5 by decide), fun _ => (show (1 : Nat) ≠ 2 by decide)⟩, (List.forall_mem_cons.mpr ⟨⟨(show (3 : Nat) ≠ 5 by decide), fun _ => (show (1 : Nat) ≠ 2 by decide)⟩, (List.forall_mem_cons.mpr ⟨⟨(show (4 : Nat) ≠ 5 by decide), fun _ => (show (1 : Nat) ≠ 2 by decide)⟩, (fun _ h9 => absurd h9 List.not_mem_nil)⟩)⟩)⟩)⟩)⟩) ?_
      refine o_iconst dL_lease_25 ?_
      refine o_ret1 dL_lease_26 trivial ?_
      exact h_no (by omega) hk hx9 hf9
    · cases hE
      refine h_onS (pre := [(0, 12, 15, 28), (0, 12, 19, 19), (0, 12, 23, 13)]) (suf := []) (a := 0) (b := 12) (hpc := 27) (ct := 30) (i := 5) rfl (List.forall_mem_cons.mpr ⟨⟨(show (28 : Nat) ≠ 0 by decide), _, hl_28, List.mem_of_getElem? (i := 3) rfl⟩, (List.forall_mem_cons.mpr ⟨⟨(show (19 : Nat) ≠ 0 by decide), _, hl_19, List.mem_of_getElem? (i := 4) rfl⟩, (List.forall_mem_cons.mpr ⟨⟨(show (13 : Nat) ≠ 0 by decide), _, hl_13, List.mem_of_getElem? (i := 5) rfl⟩, (fun _ h9 => absurd h9 List.not_mem_nil)⟩)⟩)⟩) ⟨by decide, by decide⟩ (by decide) hl_30 (List.mem_of_getElem? (i := 4) rfl) (by decide) dL_lease_27 (List.forall_mem_cons.mpr ⟨⟨(show (0 : Nat) ≠ 5 by decide), fun _ => (show (1 : Nat) ≠ 2 by decide)⟩, (List.forall_mem_cons.mpr ⟨⟨(show (1 : Nat) ≠ 5 by decide), fun _ => (show (1 : Nat) ≠ 2 by decide)⟩, (List.forall_mem_cons.mpr ⟨⟨(show (2 : Nat) ≠ 5 by decide), fun _ => (show (1 : Nat) ≠ 2 by decide)⟩, (List.forall_mem_cons.mpr ⟨⟨(show (3 : Nat) ≠ 5 by decide), fun _ => (show (1 : Nat) ≠ 2 by decide)⟩, (List.forall_mem_cons.mpr ⟨⟨(show (4 : Nat) ≠ 5 by decide), fun _ => (show (1 : Nat) ≠ 2 by decide)⟩, (fun _ h9 => absurd h9 List.not_mem_nil)⟩)⟩)⟩)⟩)⟩) ?_
      refine o_iconst dL_lease_29 ?_
      refine o_ret1 dL_lease_30 trivial ?_
      exact h_no (by omega) hk hx9 hf9
    · cases hE
set_option maxRecDepth 100000 in
set_option maxHeartbeats 4000000 in
/-- the law's requestRenewal -/
theorem ct_L_requestRenewal {l : Launch} (hl : l.stackTraces = false) (d : Nat) (g M' : Nat → Nat → Int) (P' : List (Nat → Nat → Int)) (S' : Option (Nat → Nat → Int)) (T' : Nat → Nat → Int) (k : Int) (hk0 : 0 ≤ k) (v : Int) (i : Int) (j : Int) (hC : o_Ct l yX11_requestRenewal wX11_requestRenewal d o_no [.ref 0, .int (o_I i), .int (o_I j)] o_N (o_mem g) 1 6 (x_x ["java/lang/IndexOutOfBoundsException", "java/lang/IllegalArgumentException", "java/util/NoSuchElementException", "java/lang/IllegalStateException"] k (.int (o_I v)) M' P' S' T' g)) : o_Ct l yL_requestRenewal wL_requestRenewal (d + 1) o_no [.ref 0, .int (o_I i), .int (o_I j), .ref 201] o_N (o_mem g) 1 6 (h_x k 201 ((o_I v).toInt) M' P' S' T' g) := by
  refine o_Ct.ofVH hl mL_requestRenewal (by decide +kernel) rfl rfl (Nat.le_of_ble_eq_true rfl) ?_
  refine o_loc [(0, .ref 0), (1, .int (o_I i)), (2, .int (o_I j)), (3, .ref 201)] rfl ?_
  refine o_aload_n dL_requestRenewal_0 rfl ?_
  refine o_iconst dL_requestRenewal_1 ?_
  refine o_aload_n dL_requestRenewal_2 rfl ?_
  refine o_iload_n dL_requestRenewal_3 rfl ?_
  refine o_iload_n dL_requestRenewal_4 rfl ?_
  refine o_callV [.int (o_I i), .int (o_I j)] (rest := [.int (o_I 0), .ref 201]) hC dL_requestRenewal_5 ml_L_32 yw_X11_requestRenewal rfl (by decide) (by omega) (by decide) (by decide) (by decide) rfl rfl rfl (Nat.le_of_ble_eq_true rfl) (fun _ z => z.elim) (fun _ z => z.elim) (Or.inl fun _ z => z) (fun v9 n9 h9 q9 => ?_) (fun E n9 h9 q9 => ?_)
  · obtain ⟨rfl, ⟨g', rfl, hx9, hf9⟩, q⟩ := q9
    obtain ⟨hk, q⟩ := q.resolve_right (fun z => by obtain ⟨E', -, -, z⟩ := z; cases z)
    cases q
    refine o_i2l dL_requestRenewal_8 ?_
    refine h_last (v := (o_I v).toInt) (Int64.ofInt_int32ToInt _).symm dL_requestRenewal_9 (fun g1 e9 => ?_)
    refine o_goto (tgt := 29) dL_requestRenewal_10 (by decide) ?_
    refine o_iconst dL_requestRenewal_29 ?_
    refine o_ret1 dL_requestRenewal_30 trivial ?_
    subst e9
    exact h_ok hk (Or.inl rfl) hx9 hf9
  · obtain ⟨rfl, ⟨g', rfl, hx9, hf9⟩, q⟩ := q9
    rcases q with ⟨-, q⟩ | ⟨E', hk, hE, q⟩
    · cases q
    cases q
    obtain ⟨m9, hm9⟩ : ∃ m9 : Nat, (k - 1).toNat = m9 := ⟨_, rfl⟩
    rw [hm9] at hE
    rcases m9 with _ | _ | _ | _ | m9
    · cases hE
      refine h_onS (pre := []) (suf := [(0, 10, 17, 19), (0, 10, 21, 36), (0, 10, 25, 13)]) (a := 0) (b := 10) (hpc := 13) (ct := 28) (i := 4) rfl (fun _ h9 => absurd h9 List.not_mem_nil) ⟨by decide, by decide⟩ (by decide) hl_28 (List.mem_of_getElem? (i := 0) rfl) (by decide) dL_requestRenewal_13 (List.forall_mem_cons.mpr ⟨⟨(show (0 : Nat) ≠ 4 by decide), fun _ => (show (1 : Nat) ≠ 2 by decide)⟩, (List.forall_mem_cons.mpr ⟨⟨(show (1 : Nat) ≠ 4 by decide), fun _ => (show (1 : Nat) ≠ 2 by decide)⟩, (List.forall_mem_cons.mpr ⟨⟨(show (2 : Nat) ≠ 4 by decide), fun _ => (show (1 : Nat) ≠ 2 by decide)⟩, (List.forall_mem_cons.mpr ⟨⟨(show (3 : Nat) ≠ 4 by decide), fun _ => (show (1 : Nat) ≠ 2 by decide)⟩, (fun _ h9 => absurd h9 List.not_mem_nil)⟩)⟩)⟩)⟩) ?_
      refine o_iconst dL_requestRenewal_15 ?_
      refine o_ret1 dL_requestRenewal_16 trivial ?_
      exact h_no (by omega) hk hx9 hf9
    · cases hE
      refine h_onS (pre := [(0, 10, 13, 28)]) (suf := [(0, 10, 21, 36), (0, 10, 25, 13)]) (a := 0) (b := 10) (hpc := 17) (ct := 19) (i := 4) rfl (List.forall_mem_cons.mpr ⟨⟨(show (28 : Nat) ≠ 0 by decide), _, hl_28, List.mem_of_getElem? (i := 1) rfl⟩, (fun _ h9 => absurd h9 List.not_mem_nil)⟩) ⟨by decide, by decide⟩ (by decide) hl_19 (List.mem_of_getElem? (i := 1) rfl) (by decide) dL_requestRenewal_17 (List.forall_mem_cons.mpr ⟨⟨(show (0 : Nat) ≠ 4 by decide), fun _ => (show (1 : Nat) ≠ 2 by decide)⟩, (List.forall_mem_cons.mpr ⟨⟨(show (1 : Nat) ≠ 4 by decide), fun _ => (show (1 : Nat) ≠ 2 by decide)⟩, (List.forall_mem_cons.mpr ⟨⟨(show (2 : Nat) ≠ 4 by decide), fun _ => (show (1 : Nat) ≠ 2 by decide)⟩, (List.forall_mem_cons.mpr ⟨⟨(show (3 : Nat) ≠ 4 by decide), fun _ => (show (1 : Nat) ≠ 2 by decide)⟩, (fun _ h9 => absurd h9 List.not_mem_nil)⟩)⟩)⟩)⟩) ?_
      refine o_iconst dL_requestRenewal_19 ?_
      refine o_ret1 dL_requestRenewal_20 trivial ?_
      exact h_no (by omega) hk hx9 hf9
    · cases hE
      refine h_onS (pre := [(0, 10, 13, 28), (0, 10, 17, 19)]) (suf := [(0, 10, 25, 13)]) (a := 0) (b := 10) (hpc := 21) (ct := 36) (i := 4) rfl (List.forall_mem_cons.mpr ⟨⟨(show (28 : Nat) ≠ 0 by decide), _, hl_28, List.mem_of_getElem? (i := 6) rfl⟩, (List.forall_mem_cons.mpr ⟨⟨(show (19 : Nat) ≠ 0 by decide), _, hl_19, List.mem_of_getElem? (i := 7) rfl⟩, (fun _ h9 => absurd h9 List.not_mem_nil)⟩)⟩) ⟨by decide, by decide⟩ (by decide) hl_36 (List.mem_of_getElem? (i := 3) rfl) (by decide) dL_requestRenewal_21 (List.forall_mem_cons.mpr ⟨⟨(show (0 : Nat) ≠ 4 by decide), fun _ => (show (1 : Nat) ≠ 2 by decide)⟩, (List.forall_mem_cons.mpr ⟨⟨(show (1 : Nat) ≠ 4 by decide), fun _ => (show (1 : Nat) ≠ 2 by decide)⟩, (List.forall_mem_cons.mpr ⟨⟨(show (2 : Nat) ≠ 4 by decide), fun _ => (show (1 : Nat) ≠ 2 by decide)⟩, (List.forall_mem_cons.mpr ⟨⟨(show (3 : Nat) ≠ 4 by decide), fun _ => (show (1 : Nat) ≠ 2 by decide)⟩, (fun _ h9 => absurd h9 List.not_mem_nil)⟩)⟩)⟩)⟩) ?_
      refine o_iconst dL_requestRenewal_23 ?_
      refine o_ret1 dL_requestRenewal_24 trivial ?_
      exact h_no (by omega) hk hx9 hf9
    · cases hE
      refine h_onS (pre := [(0, 10, 13, 28), (0, 10, 17, 19), (0, 10, 21, 36)]) (suf := []) (a := 0) (b := 10) (hpc := 25) (ct := 13) (i := 4) rfl (List.forall_mem_cons.mpr ⟨⟨(show (28 : Nat) ≠ 0 by decide), _, hl_28, List.mem_of_getElem? (i := 2) rfl⟩, (List.forall_mem_cons.mpr ⟨⟨(show (19 : Nat) ≠ 0 by decide), _, hl_19, List.mem_of_getElem? (i := 0) rfl⟩, (List.forall_mem_cons.mpr ⟨⟨(show (36 : Nat) ≠ 0 by decide), _, hl_36, List.mem_of_getElem? (i := 8) rfl⟩, (fun _ h9 => absurd h9 List.not_mem_nil)⟩)⟩)⟩) ⟨by decide, by decide⟩ (by decide) hl_13 (List.mem_of_getElem? (i := 2) rfl) (by decide) dL_requestRenewal_25 (List.forall_mem_cons.mpr ⟨⟨(show (0 : Nat) ≠ 4 by decide), fun _ => (show (1 : Nat) ≠ 2 by decide)⟩, (List.forall_mem_cons.mpr ⟨⟨(show (1 : Nat) ≠ 4 by decide), fun _ => (show (1 : Nat) ≠ 2 by decide)⟩, (List.forall_mem_cons.mpr ⟨⟨(show (2 : Nat) ≠ 4 by decide), fun _ => (show (1 : Nat) ≠ 2 by decide)⟩, (List.forall_mem_cons.mpr ⟨⟨(show (3 : Nat) ≠ 4 by decide), fun _ => (show (1 : Nat) ≠ 2 by decide)⟩, (fun _ h9 => absurd h9 List.not_mem_nil)⟩)⟩)⟩)⟩) ?_
      refine o_iconst dL_requestRenewal_27 ?_
      refine o_ret1 dL_requestRenewal_28 trivial ?_
      exact h_no (by omega) hk hx9 hf9
    · cases hE
set_option maxRecDepth 100000 in
set_option maxHeartbeats 4000000 in
/-- the law's giveUp -/
theorem ct_L_giveUp {l : Launch} (hl : l.stackTraces = false) (d : Nat) (g M' : Nat → Nat → Int) (P' : List (Nat → Nat → Int)) (S' : Option (Nat → Nat → Int)) (T' : Nat → Nat → Int) (k : Int) (hk0 : 0 ≤ k) (v : Int) (i : Int) (hC : o_Ct l yX11_giveUp wX11_giveUp d o_no [.ref 0, .int (o_I i)] o_N (o_mem g) 1 6 (x_x ["java/lang/IndexOutOfBoundsException", "java/util/NoSuchElementException"] k (.int (o_I v)) M' P' S' T' g)) : o_Ct l yL_giveUp wL_giveUp (d + 1) o_no [.ref 0, .int (o_I i), .ref 201] o_N (o_mem g) 1 6 (h_x k 201 ((o_I v).toInt) M' P' S' T' g) := by
  refine o_Ct.ofVH hl mL_giveUp (by decide +kernel) rfl rfl (Nat.le_of_ble_eq_true rfl) ?_
  refine o_loc [(0, .ref 0), (1, .int (o_I i)), (2, .ref 201)] rfl ?_
  refine o_aload_n dL_giveUp_0 rfl ?_
  refine o_iconst dL_giveUp_1 ?_
  refine o_aload_n dL_giveUp_2 rfl ?_
  refine o_iload_n dL_giveUp_3 rfl ?_
  refine o_callV [.int (o_I i)] (rest := [.int (o_I 0), .ref 201]) hC dL_giveUp_4 ml_L_38 yw_X11_giveUp rfl (by decide) (by omega) (by decide) (by decide) (by decide) rfl rfl rfl (Nat.le_of_ble_eq_true rfl) (fun _ z => z.elim) (fun _ z => z.elim) (Or.inl fun _ z => z) (fun v9 n9 h9 q9 => ?_) (fun E n9 h9 q9 => ?_)
  · obtain ⟨rfl, ⟨g', rfl, hx9, hf9⟩, q⟩ := q9
    obtain ⟨hk, q⟩ := q.resolve_right (fun z => by obtain ⟨E', -, -, z⟩ := z; cases z)
    cases q
    refine o_i2l dL_giveUp_7 ?_
    refine h_last (v := (o_I v).toInt) (Int64.ofInt_int32ToInt _).symm dL_giveUp_8 (fun g1 e9 => ?_)
    refine o_goto (tgt := 18) dL_giveUp_9 (by decide) ?_
    refine o_iconst dL_giveUp_18 ?_
    refine o_ret1 dL_giveUp_19 trivial ?_
    subst e9
    exact h_ok hk (Or.inl rfl) hx9 hf9
  · obtain ⟨rfl, ⟨g', rfl, hx9, hf9⟩, q⟩ := q9
    rcases q with ⟨-, q⟩ | ⟨E', hk, hE, q⟩
    · cases q
    cases q
    obtain ⟨m9, hm9⟩ : ∃ m9 : Nat, (k - 1).toNat = m9 := ⟨_, rfl⟩
    rw [hm9] at hE
    rcases m9 with _ | _ | m9
    · cases hE
      refine h_onN (k := 3) (pre := []) (suf := [(0, 9, 15, 36)]) (a := 0) (b := 9) (hpc := 12) (ct := 28) (i := 3) rfl (fun _ h9 => absurd h9 List.not_mem_nil) ⟨by decide, by decide⟩ (by decide) hl_28 (List.mem_of_getElem? (i := 0) rfl) (by decide) rfl dL_giveUp_12 (List.forall_mem_cons.mpr ⟨⟨(show (0 : Nat) ≠ 3 by decide), fun _ => (show (1 : Nat) ≠ 2 by decide)⟩, (List.forall_mem_cons.mpr ⟨⟨(show (1 : Nat) ≠ 3 by decide), fun _ => (show (1 : Nat) ≠ 2 by decide)⟩, (List.forall_mem_cons.mpr ⟨⟨(show (2 : Nat) ≠ 3 by decide), fun _ => (show (1 : Nat) ≠ 2 by decide)⟩, (fun _ h9 => absurd h9 List.not_mem_nil)⟩)⟩)⟩) ?_
      refine o_iconst dL_giveUp_13 ?_
      refine o_ret1 dL_giveUp_14 trivial ?_
      exact h_no (by omega) hk hx9 hf9
    · cases hE
      refine h_onN (k := 3) (pre := [(0, 9, 12, 28)]) (suf := []) (a := 0) (b := 9) (hpc := 15) (ct := 36) (i := 3) rfl (List.forall_mem_cons.mpr ⟨⟨(show (28 : Nat) ≠ 0 by decide), _, hl_28, List.mem_of_getElem? (i := 6) rfl⟩, (fun _ h9 => absurd h9 List.not_mem_nil)⟩) ⟨by decide, by decide⟩ (by decide) hl_36 (List.mem_of_getElem? (i := 3) rfl) (by decide) rfl dL_giveUp_15 (List.forall_mem_cons.mpr ⟨⟨(show (0 : Nat) ≠ 3 by decide), fun _ => (show (1 : Nat) ≠ 2 by decide)⟩, (List.forall_mem_cons.mpr ⟨⟨(show (1 : Nat) ≠ 3 by decide), fun _ => (show (1 : Nat) ≠ 2 by decide)⟩, (List.forall_mem_cons.mpr ⟨⟨(show (2 : Nat) ≠ 3 by decide), fun _ => (show (1 : Nat) ≠ 2 by decide)⟩, (fun _ h9 => absurd h9 List.not_mem_nil)⟩)⟩)⟩) ?_
      refine o_iconst dL_giveUp_16 ?_
      refine o_ret1 dL_giveUp_17 trivial ?_
      exact h_no (by omega) hk hx9 hf9
    · cases hE
set_option maxRecDepth 100000 in
set_option maxHeartbeats 4000000 in
/-- the law's passHours -/
theorem ct_L_passHours {l : Launch} (hl : l.stackTraces = false) (d : Nat) (g M' : Nat → Nat → Int) (P' : List (Nat → Nat → Int)) (S' : Option (Nat → Nat → Int)) (T' : Nat → Nat → Int) (k : Int) (hk0 : 0 ≤ k) (v : Int) (i : Int) (hC : o_Ct l yX11_passHours wX11_passHours d o_no [.ref 0, .int (o_I i)] o_N (o_mem g) 1 6 (x_x ["java/lang/IllegalArgumentException"] k (.int (o_I v)) M' P' S' T' g)) : o_Ct l yL_passHours wL_passHours (d + 1) o_no [.ref 0, .int (o_I i), .ref 201] o_N (o_mem g) 1 6 (h_x k 201 ((o_I v).toInt) M' P' S' T' g) := by
  refine o_Ct.ofVH hl mL_passHours (by decide +kernel) rfl rfl (Nat.le_of_ble_eq_true rfl) ?_
  refine o_loc [(0, .ref 0), (1, .int (o_I i)), (2, .ref 201)] rfl ?_
  refine o_aload_n dL_passHours_0 rfl ?_
  refine o_iconst dL_passHours_1 ?_
  refine o_aload_n dL_passHours_2 rfl ?_
  refine o_iload_n dL_passHours_3 rfl ?_
  refine o_callV [.int (o_I i)] (rest := [.int (o_I 0), .ref 201]) hC dL_passHours_4 ml_L_41 yw_X11_passHours rfl (by decide) (by omega) (by decide) (by decide) (by decide) rfl rfl rfl (Nat.le_of_ble_eq_true rfl) (fun _ z => z.elim) (fun _ z => z.elim) (Or.inl fun _ z => z) (fun v9 n9 h9 q9 => ?_) (fun E n9 h9 q9 => ?_)
  · obtain ⟨rfl, ⟨g', rfl, hx9, hf9⟩, q⟩ := q9
    obtain ⟨hk, q⟩ := q.resolve_right (fun z => by obtain ⟨E', -, -, z⟩ := z; cases z)
    cases q
    refine o_i2l dL_passHours_7 ?_
    refine h_last (v := (o_I v).toInt) (Int64.ofInt_int32ToInt _).symm dL_passHours_8 (fun g1 e9 => ?_)
    refine o_goto (tgt := 15) dL_passHours_9 (by decide) ?_
    refine o_iconst dL_passHours_15 ?_
    refine o_ret1 dL_passHours_16 trivial ?_
    subst e9
    exact h_ok hk (Or.inl rfl) hx9 hf9
  · obtain ⟨rfl, ⟨g', rfl, hx9, hf9⟩, q⟩ := q9
    rcases q with ⟨-, q⟩ | ⟨E', hk, hE, q⟩
    · cases q
    cases q
    obtain ⟨m9, hm9⟩ : ∃ m9 : Nat, (k - 1).toNat = m9 := ⟨_, rfl⟩
    rw [hm9] at hE
    rcases m9 with _ | m9
    · cases hE
      refine h_onN (k := 3) (pre := []) (suf := []) (a := 0) (b := 9) (hpc := 12) (ct := 19) (i := 3) rfl (fun _ h9 => absurd h9 List.not_mem_nil) ⟨by decide, by decide⟩ (by decide) hl_19 (List.mem_of_getElem? (i := 1) rfl) (by decide) rfl dL_passHours_12 (List.forall_mem_cons.mpr ⟨⟨(show (0 : Nat) ≠ 3 by decide), fun _ => (show (1 : Nat) ≠ 2 by decide)⟩, (List.forall_mem_cons.mpr ⟨⟨(show (1 : Nat) ≠ 3 by decide), fun _ => (show (1 : Nat) ≠ 2 by decide)⟩, (List.forall_mem_cons.mpr ⟨⟨(show (2 : Nat) ≠ 3 by decide), fun _ => (show (1 : Nat) ≠ 2 by decide)⟩, (fun _ h9 => absurd h9 List.not_mem_nil)⟩)⟩)⟩) ?_
      refine o_iconst dL_passHours_13 ?_
      refine o_ret1 dL_passHours_14 trivial ?_
      exact h_no (by omega) hk hx9 hf9
    · cases hE
set_option maxRecDepth 100000 in
set_option maxHeartbeats 4000000 in
/-- the law's coins -/
theorem ct_L_coins {l : Launch} (hl : l.stackTraces = false) (d : Nat) (g M' : Nat → Nat → Int) (P' : List (Nat → Nat → Int)) (S' : Option (Nat → Nat → Int)) (T' : Nat → Nat → Int) (k : Int) (hk0 : 0 ≤ k) (v : Int) (i : Int) (hC : o_Ct l yX11_coins wX11_coins d o_no [.ref 0, .int (o_I i)] o_N (o_mem g) 1 6 (x_x ["java/lang/IndexOutOfBoundsException"] k (.int (o_I v)) M' P' S' T' g)) : o_Ct l yL_coins wL_coins (d + 1) o_no [.ref 0, .int (o_I i), .ref 201] o_N (o_mem g) 1 6 (h_x k 201 ((o_I v).toInt) M' P' S' T' g) := by
  refine o_Ct.ofVH hl mL_coins (by decide +kernel) rfl rfl (Nat.le_of_ble_eq_true rfl) ?_
  refine o_loc [(0, .ref 0), (1, .int (o_I i)), (2, .ref 201)] rfl ?_
  refine o_aload_n dL_coins_0 rfl ?_
  refine o_iconst dL_coins_1 ?_
  refine o_aload_n dL_coins_2 rfl ?_
  refine o_iload_n dL_coins_3 rfl ?_
  refine o_callV [.int (o_I i)] (rest := [.int (o_I 0), .ref 201]) hC dL_coins_4 ml_L_44 yw_X11_coins rfl (by decide) (by omega) (by decide) (by decide) (by decide) rfl rfl rfl (Nat.le_of_ble_eq_true rfl) (fun _ z => z.elim) (fun _ z => z.elim) (Or.inl fun _ z => z) (fun v9 n9 h9 q9 => ?_) (fun E n9 h9 q9 => ?_)
  · obtain ⟨rfl, ⟨g', rfl, hx9, hf9⟩, q⟩ := q9
    obtain ⟨hk, q⟩ := q.resolve_right (fun z => by obtain ⟨E', -, -, z⟩ := z; cases z)
    cases q
    refine o_i2l dL_coins_7 ?_
    refine h_last (v := (o_I v).toInt) (Int64.ofInt_int32ToInt _).symm dL_coins_8 (fun g1 e9 => ?_)
    refine o_goto (tgt := 15) dL_coins_9 (by decide) ?_
    refine o_iconst dL_coins_15 ?_
    refine o_ret1 dL_coins_16 trivial ?_
    subst e9
    exact h_ok hk (Or.inl rfl) hx9 hf9
  · obtain ⟨rfl, ⟨g', rfl, hx9, hf9⟩, q⟩ := q9
    rcases q with ⟨-, q⟩ | ⟨E', hk, hE, q⟩
    · cases q
    cases q
    obtain ⟨m9, hm9⟩ : ∃ m9 : Nat, (k - 1).toNat = m9 := ⟨_, rfl⟩
    rw [hm9] at hE
    rcases m9 with _ | m9
    · cases hE
      refine h_onN (k := 3) (pre := []) (suf := []) (a := 0) (b := 9) (hpc := 12) (ct := 28) (i := 3) rfl (fun _ h9 => absurd h9 List.not_mem_nil) ⟨by decide, by decide⟩ (by decide) hl_28 (List.mem_of_getElem? (i := 0) rfl) (by decide) rfl dL_coins_12 (List.forall_mem_cons.mpr ⟨⟨(show (0 : Nat) ≠ 3 by decide), fun _ => (show (1 : Nat) ≠ 2 by decide)⟩, (List.forall_mem_cons.mpr ⟨⟨(show (1 : Nat) ≠ 3 by decide), fun _ => (show (1 : Nat) ≠ 2 by decide)⟩, (List.forall_mem_cons.mpr ⟨⟨(show (2 : Nat) ≠ 3 by decide), fun _ => (show (1 : Nat) ≠ 2 by decide)⟩, (fun _ h9 => absurd h9 List.not_mem_nil)⟩)⟩)⟩) ?_
      refine o_iconst dL_coins_13 ?_
      refine o_ret1 dL_coins_14 trivial ?_
      exact h_no (by omega) hk hx9 hf9
    · cases hE
set_option maxRecDepth 100000 in
set_option maxHeartbeats 4000000 in
/-- the law's finesPaid -/
theorem ct_L_finesPaid {l : Launch} (hl : l.stackTraces = false) (d : Nat) (g M' : Nat → Nat → Int) (P' : List (Nat → Nat → Int)) (S' : Option (Nat → Nat → Int)) (T' : Nat → Nat → Int) (k : Int) (hk0 : 0 ≤ k) (v : Int) (i : Int) (hC : o_Ct l yX11_finesPaid wX11_finesPaid d o_no [.ref 0, .int (o_I i)] o_N (o_mem g) 1 6 (x_x ["java/lang/IndexOutOfBoundsException"] k (.int (o_I v)) M' P' S' T' g)) : o_Ct l yL_finesPaid wL_finesPaid (d + 1) o_no [.ref 0, .int (o_I i), .ref 201] o_N (o_mem g) 1 6 (h_x k 201 ((o_I v).toInt) M' P' S' T' g) := by
  refine o_Ct.ofVH hl mL_finesPaid (by decide +kernel) rfl rfl (Nat.le_of_ble_eq_true rfl) ?_
  refine o_loc [(0, .ref 0), (1, .int (o_I i)), (2, .ref 201)] rfl ?_
  refine o_aload_n dL_finesPaid_0 rfl ?_
  refine o_iconst dL_finesPaid_1 ?_
  refine o_aload_n dL_finesPaid_2 rfl ?_
  refine o_iload_n dL_finesPaid_3 rfl ?_
  refine o_callV [.int (o_I i)] (rest := [.int (o_I 0), .ref 201]) hC dL_finesPaid_4 ml_L_47 yw_X11_finesPaid rfl (by decide) (by omega) (by decide) (by decide) (by decide) rfl rfl rfl (Nat.le_of_ble_eq_true rfl) (fun _ z => z.elim) (fun _ z => z.elim) (Or.inl fun _ z => z) (fun v9 n9 h9 q9 => ?_) (fun E n9 h9 q9 => ?_)
  · obtain ⟨rfl, ⟨g', rfl, hx9, hf9⟩, q⟩ := q9
    obtain ⟨hk, q⟩ := q.resolve_right (fun z => by obtain ⟨E', -, -, z⟩ := z; cases z)
    cases q
    refine o_i2l dL_finesPaid_7 ?_
    refine h_last (v := (o_I v).toInt) (Int64.ofInt_int32ToInt _).symm dL_finesPaid_8 (fun g1 e9 => ?_)
    refine o_goto (tgt := 15) dL_finesPaid_9 (by decide) ?_
    refine o_iconst dL_finesPaid_15 ?_
    refine o_ret1 dL_finesPaid_16 trivial ?_
    subst e9
    exact h_ok hk (Or.inl rfl) hx9 hf9
  · obtain ⟨rfl, ⟨g', rfl, hx9, hf9⟩, q⟩ := q9
    rcases q with ⟨-, q⟩ | ⟨E', hk, hE, q⟩
    · cases q
    cases q
    obtain ⟨m9, hm9⟩ : ∃ m9 : Nat, (k - 1).toNat = m9 := ⟨_, rfl⟩
    rw [hm9] at hE
    rcases m9 with _ | m9
    · cases hE
      refine h_onN (k := 3) (pre := []) (suf := []) (a := 0) (b := 9) (hpc := 12) (ct := 28) (i := 3) rfl (fun _ h9 => absurd h9 List.not_mem_nil) ⟨by decide, by decide⟩ (by decide) hl_28 (List.mem_of_getElem? (i := 0) rfl) (by decide) rfl dL_finesPaid_12 (List.forall_mem_cons.mpr ⟨⟨(show (0 : Nat) ≠ 3 by decide), fun _ => (show (1 : Nat) ≠ 2 by decide)⟩, (List.forall_mem_cons.mpr ⟨⟨(show (1 : Nat) ≠ 3 by decide), fun _ => (show (1 : Nat) ≠ 2 by decide)⟩, (List.forall_mem_cons.mpr ⟨⟨(show (2 : Nat) ≠ 3 by decide), fun _ => (show (1 : Nat) ≠ 2 by decide)⟩, (fun _ h9 => absurd h9 List.not_mem_nil)⟩)⟩)⟩) ?_
      refine o_iconst dL_finesPaid_13 ?_
      refine o_ret1 dL_finesPaid_14 trivial ?_
      exact h_no (by omega) hk hx9 hf9
    · cases hE
set_option maxRecDepth 100000 in
set_option maxHeartbeats 4000000 in
/-- the law's darkHours -/
theorem ct_L_darkHours {l : Launch} (hl : l.stackTraces = false) (d : Nat) (g M' : Nat → Nat → Int) (P' : List (Nat → Nat → Int)) (S' : Option (Nat → Nat → Int)) (T' : Nat → Nat → Int) (k : Int) (hk0 : 0 ≤ k) (v : Int) (i : Int) (hC : o_Ct l yX11_darkHours wX11_darkHours d o_no [.ref 0, .int (o_I i)] o_N (o_mem g) 1 6 (x_x ["java/lang/IndexOutOfBoundsException"] k (.int (o_I v)) M' P' S' T' g)) : o_Ct l yL_darkHours wL_darkHours (d + 1) o_no [.ref 0, .int (o_I i), .ref 201] o_N (o_mem g) 1 6 (h_x k 201 ((o_I v).toInt) M' P' S' T' g) := by
  refine o_Ct.ofVH hl mL_darkHours (by decide +kernel) rfl rfl (Nat.le_of_ble_eq_true rfl) ?_
  refine o_loc [(0, .ref 0), (1, .int (o_I i)), (2, .ref 201)] rfl ?_
  refine o_aload_n dL_darkHours_0 rfl ?_
  refine o_iconst dL_darkHours_1 ?_
  refine o_aload_n dL_darkHours_2 rfl ?_
  refine o_iload_n dL_darkHours_3 rfl ?_
  refine o_callV [.int (o_I i)] (rest := [.int (o_I 0), .ref 201]) hC dL_darkHours_4 ml_L_50 yw_X11_darkHours rfl (by decide) (by omega) (by decide) (by decide) (by decide) rfl rfl rfl (Nat.le_of_ble_eq_true rfl) (fun _ z => z.elim) (fun _ z => z.elim) (Or.inl fun _ z => z) (fun v9 n9 h9 q9 => ?_) (fun E n9 h9 q9 => ?_)
  · obtain ⟨rfl, ⟨g', rfl, hx9, hf9⟩, q⟩ := q9
    obtain ⟨hk, q⟩ := q.resolve_right (fun z => by obtain ⟨E', -, -, z⟩ := z; cases z)
    cases q
    refine o_i2l dL_darkHours_7 ?_
    refine h_last (v := (o_I v).toInt) (Int64.ofInt_int32ToInt _).symm dL_darkHours_8 (fun g1 e9 => ?_)
    refine o_goto (tgt := 15) dL_darkHours_9 (by decide) ?_
    refine o_iconst dL_darkHours_15 ?_
    refine o_ret1 dL_darkHours_16 trivial ?_
    subst e9
    exact h_ok hk (Or.inl rfl) hx9 hf9
  · obtain ⟨rfl, ⟨g', rfl, hx9, hf9⟩, q⟩ := q9
    rcases q with ⟨-, q⟩ | ⟨E', hk, hE, q⟩
    · cases q
    cases q
    obtain ⟨m9, hm9⟩ : ∃ m9 : Nat, (k - 1).toNat = m9 := ⟨_, rfl⟩
    rw [hm9] at hE
    rcases m9 with _ | m9
    · cases hE
      refine h_onN (k := 3) (pre := []) (suf := []) (a := 0) (b := 9) (hpc := 12) (ct := 28) (i := 3) rfl (fun _ h9 => absurd h9 List.not_mem_nil) ⟨by decide, by decide⟩ (by decide) hl_28 (List.mem_of_getElem? (i := 0) rfl) (by decide) rfl dL_darkHours_12 (List.forall_mem_cons.mpr ⟨⟨(show (0 : Nat) ≠ 3 by decide), fun _ => (show (1 : Nat) ≠ 2 by decide)⟩, (List.forall_mem_cons.mpr ⟨⟨(show (1 : Nat) ≠ 3 by decide), fun _ => (show (1 : Nat) ≠ 2 by decide)⟩, (List.forall_mem_cons.mpr ⟨⟨(show (2 : Nat) ≠ 3 by decide), fun _ => (show (1 : Nat) ≠ 2 by decide)⟩, (fun _ h9 => absurd h9 List.not_mem_nil)⟩)⟩)⟩) ?_
      refine o_iconst dL_darkHours_13 ?_
      refine o_ret1 dL_darkHours_14 trivial ?_
      exact h_no (by omega) hk hx9 hf9
    · cases hE
set_option maxRecDepth 100000 in
set_option maxHeartbeats 4000000 in
/-- the law's demand -/
theorem ct_L_demand {l : Launch} (hl : l.stackTraces = false) (d : Nat) (g M' : Nat → Nat → Int) (P' : List (Nat → Nat → Int)) (S' : Option (Nat → Nat → Int)) (T' : Nat → Nat → Int) (k : Int) (hk0 : 0 ≤ k) (v : Int) (i : Int) (hC : o_Ct l yX11_demand wX11_demand d o_no [.ref 0, .int (o_I i)] o_N (o_mem g) 1 6 (x_x ["java/lang/IndexOutOfBoundsException"] k (.int (o_I v)) M' P' S' T' g)) : o_Ct l yL_demand wL_demand (d + 1) o_no [.ref 0, .int (o_I i), .ref 201] o_N (o_mem g) 1 6 (h_x k 201 ((o_I v).toInt) M' P' S' T' g) := by
  refine o_Ct.ofVH hl mL_demand (by decide +kernel) rfl rfl (Nat.le_of_ble_eq_true rfl) ?_
  refine o_loc [(0, .ref 0), (1, .int (o_I i)), (2, .ref 201)] rfl ?_
  refine o_aload_n dL_demand_0 rfl ?_
  refine o_iconst dL_demand_1 ?_
  refine o_aload_n dL_demand_2 rfl ?_
  refine o_iload_n dL_demand_3 rfl ?_
  refine o_callV [.int (o_I i)] (rest := [.int (o_I 0), .ref 201]) hC dL_demand_4 ml_L_53 yw_X11_demand rfl (by decide) (by omega) (by decide) (by decide) (by decide) rfl rfl rfl (Nat.le_of_ble_eq_true rfl) (fun _ z => z.elim) (fun _ z => z.elim) (Or.inl fun _ z => z) (fun v9 n9 h9 q9 => ?_) (fun E n9 h9 q9 => ?_)
  · obtain ⟨rfl, ⟨g', rfl, hx9, hf9⟩, q⟩ := q9
    obtain ⟨hk, q⟩ := q.resolve_right (fun z => by obtain ⟨E', -, -, z⟩ := z; cases z)
    cases q
    refine o_i2l dL_demand_7 ?_
    refine h_last (v := (o_I v).toInt) (Int64.ofInt_int32ToInt _).symm dL_demand_8 (fun g1 e9 => ?_)
    refine o_goto (tgt := 15) dL_demand_9 (by decide) ?_
    refine o_iconst dL_demand_15 ?_
    refine o_ret1 dL_demand_16 trivial ?_
    subst e9
    exact h_ok hk (Or.inl rfl) hx9 hf9
  · obtain ⟨rfl, ⟨g', rfl, hx9, hf9⟩, q⟩ := q9
    rcases q with ⟨-, q⟩ | ⟨E', hk, hE, q⟩
    · cases q
    cases q
    obtain ⟨m9, hm9⟩ : ∃ m9 : Nat, (k - 1).toNat = m9 := ⟨_, rfl⟩
    rw [hm9] at hE
    rcases m9 with _ | m9
    · cases hE
      refine h_onN (k := 3) (pre := []) (suf := []) (a := 0) (b := 9) (hpc := 12) (ct := 28) (i := 3) rfl (fun _ h9 => absurd h9 List.not_mem_nil) ⟨by decide, by decide⟩ (by decide) hl_28 (List.mem_of_getElem? (i := 0) rfl) (by decide) rfl dL_demand_12 (List.forall_mem_cons.mpr ⟨⟨(show (0 : Nat) ≠ 3 by decide), fun _ => (show (1 : Nat) ≠ 2 by decide)⟩, (List.forall_mem_cons.mpr ⟨⟨(show (1 : Nat) ≠ 3 by decide), fun _ => (show (1 : Nat) ≠ 2 by decide)⟩, (List.forall_mem_cons.mpr ⟨⟨(show (2 : Nat) ≠ 3 by decide), fun _ => (show (1 : Nat) ≠ 2 by decide)⟩, (fun _ h9 => absurd h9 List.not_mem_nil)⟩)⟩)⟩) ?_
      refine o_iconst dL_demand_13 ?_
      refine o_ret1 dL_demand_14 trivial ?_
      exact h_no (by omega) hk hx9 hf9
    · cases hE
set_option maxRecDepth 100000 in
set_option maxHeartbeats 4000000 in
/-- the law's leasesOf -/
theorem ct_L_leasesOf {l : Launch} (hl : l.stackTraces = false) (d : Nat) (g M' : Nat → Nat → Int) (P' : List (Nat → Nat → Int)) (S' : Option (Nat → Nat → Int)) (T' : Nat → Nat → Int) (k : Int) (hk0 : 0 ≤ k) (v : Int) (i : Int) (hC : o_Ct l yX11_leasesOf wX11_leasesOf d o_no [.ref 0, .int (o_I i)] o_N (o_mem g) 1 6 (x_x ["java/lang/IndexOutOfBoundsException"] k (.int (o_I v)) M' P' S' T' g)) : o_Ct l yL_leasesOf wL_leasesOf (d + 1) o_no [.ref 0, .int (o_I i), .ref 201] o_N (o_mem g) 1 6 (h_x k 201 ((o_I v).toInt) M' P' S' T' g) := by
  refine o_Ct.ofVH hl mL_leasesOf (by decide +kernel) rfl rfl (Nat.le_of_ble_eq_true rfl) ?_
  refine o_loc [(0, .ref 0), (1, .int (o_I i)), (2, .ref 201)] rfl ?_
  refine o_aload_n dL_leasesOf_0 rfl ?_
  refine o_iconst dL_leasesOf_1 ?_
  refine o_aload_n dL_leasesOf_2 rfl ?_
  refine o_iload_n dL_leasesOf_3 rfl ?_
  refine o_callV [.int (o_I i)] (rest := [.int (o_I 0), .ref 201]) hC dL_leasesOf_4 ml_L_56 yw_X11_leasesOf rfl (by decide) (by omega) (by decide) (by decide) (by decide) rfl rfl rfl (Nat.le_of_ble_eq_true rfl) (fun _ z => z.elim) (fun _ z => z.elim) (Or.inl fun _ z => z) (fun v9 n9 h9 q9 => ?_) (fun E n9 h9 q9 => ?_)
  · obtain ⟨rfl, ⟨g', rfl, hx9, hf9⟩, q⟩ := q9
    obtain ⟨hk, q⟩ := q.resolve_right (fun z => by obtain ⟨E', -, -, z⟩ := z; cases z)
    cases q
    refine o_i2l dL_leasesOf_7 ?_
    refine h_last (v := (o_I v).toInt) (Int64.ofInt_int32ToInt _).symm dL_leasesOf_8 (fun g1 e9 => ?_)
    refine o_goto (tgt := 15) dL_leasesOf_9 (by decide) ?_
    refine o_iconst dL_leasesOf_15 ?_
    refine o_ret1 dL_leasesOf_16 trivial ?_
    subst e9
    exact h_ok hk (Or.inl rfl) hx9 hf9
  · obtain ⟨rfl, ⟨g', rfl, hx9, hf9⟩, q⟩ := q9
    rcases q with ⟨-, q⟩ | ⟨E', hk, hE, q⟩
    · cases q
    cases q
    obtain ⟨m9, hm9⟩ : ∃ m9 : Nat, (k - 1).toNat = m9 := ⟨_, rfl⟩
    rw [hm9] at hE
    rcases m9 with _ | m9
    · cases hE
      refine h_onN (k := 3) (pre := []) (suf := []) (a := 0) (b := 9) (hpc := 12) (ct := 28) (i := 3) rfl (fun _ h9 => absurd h9 List.not_mem_nil) ⟨by decide, by decide⟩ (by decide) hl_28 (List.mem_of_getElem? (i := 0) rfl) (by decide) rfl dL_leasesOf_12 (List.forall_mem_cons.mpr ⟨⟨(show (0 : Nat) ≠ 3 by decide), fun _ => (show (1 : Nat) ≠ 2 by decide)⟩, (List.forall_mem_cons.mpr ⟨⟨(show (1 : Nat) ≠ 3 by decide), fun _ => (show (1 : Nat) ≠ 2 by decide)⟩, (List.forall_mem_cons.mpr ⟨⟨(show (2 : Nat) ≠ 3 by decide), fun _ => (show (1 : Nat) ≠ 2 by decide)⟩, (fun _ h9 => absurd h9 List.not_mem_nil)⟩)⟩)⟩) ?_
      refine o_iconst dL_leasesOf_13 ?_
      refine o_ret1 dL_leasesOf_14 trivial ?_
      exact h_no (by omega) hk hx9 hf9
    · cases hE
set_option maxRecDepth 100000 in
set_option maxHeartbeats 4000000 in
/-- the law's level -/
theorem ct_L_level {l : Launch} (hl : l.stackTraces = false) (d : Nat) (g M' : Nat → Nat → Int) (P' : List (Nat → Nat → Int)) (S' : Option (Nat → Nat → Int)) (T' : Nat → Nat → Int) (k : Int) (hk0 : 0 ≤ k) (v : Int) (i : Int) (hC : o_Ct l yX11_level wX11_level d o_no [.ref 0, .int (o_I i)] o_N (o_mem g) 1 6 (x_x ["java/lang/IndexOutOfBoundsException"] k (.int (o_I v)) M' P' S' T' g)) : o_Ct l yL_level wL_level (d + 1) o_no [.ref 0, .int (o_I i), .ref 201] o_N (o_mem g) 1 6 (h_x k 201 ((o_I v).toInt) M' P' S' T' g) := by
  refine o_Ct.ofVH hl mL_level (by decide +kernel) rfl rfl (Nat.le_of_ble_eq_true rfl) ?_
  refine o_loc [(0, .ref 0), (1, .int (o_I i)), (2, .ref 201)] rfl ?_
  refine o_aload_n dL_level_0 rfl ?_
  refine o_iconst dL_level_1 ?_
  refine o_aload_n dL_level_2 rfl ?_
  refine o_iload_n dL_level_3 rfl ?_
  refine o_callV [.int (o_I i)] (rest := [.int (o_I 0), .ref 201]) hC dL_level_4 ml_L_59 yw_X11_level rfl (by decide) (by omega) (by decide) (by decide) (by decide) rfl rfl rfl (Nat.le_of_ble_eq_true rfl) (fun _ z => z.elim) (fun _ z => z.elim) (Or.inl fun _ z => z) (fun v9 n9 h9 q9 => ?_) (fun E n9 h9 q9 => ?_)
  · obtain ⟨rfl, ⟨g', rfl, hx9, hf9⟩, q⟩ := q9
    obtain ⟨hk, q⟩ := q.resolve_right (fun z => by obtain ⟨E', -, -, z⟩ := z; cases z)
    cases q
    refine o_i2l dL_level_7 ?_
    refine h_last (v := (o_I v).toInt) (Int64.ofInt_int32ToInt _).symm dL_level_8 (fun g1 e9 => ?_)
    refine o_goto (tgt := 15) dL_level_9 (by decide) ?_
    refine o_iconst dL_level_15 ?_
    refine o_ret1 dL_level_16 trivial ?_
    subst e9
    exact h_ok hk (Or.inl rfl) hx9 hf9
  · obtain ⟨rfl, ⟨g', rfl, hx9, hf9⟩, q⟩ := q9
    rcases q with ⟨-, q⟩ | ⟨E', hk, hE, q⟩
    · cases q
    cases q
    obtain ⟨m9, hm9⟩ : ∃ m9 : Nat, (k - 1).toNat = m9 := ⟨_, rfl⟩
    rw [hm9] at hE
    rcases m9 with _ | m9
    · cases hE
      refine h_onN (k := 3) (pre := []) (suf := []) (a := 0) (b := 9) (hpc := 12) (ct := 28) (i := 3) rfl (fun _ h9 => absurd h9 List.not_mem_nil) ⟨by decide, by decide⟩ (by decide) hl_28 (List.mem_of_getElem? (i := 0) rfl) (by decide) rfl dL_level_12 (List.forall_mem_cons.mpr ⟨⟨(show (0 : Nat) ≠ 3 by decide), fun _ => (show (1 : Nat) ≠ 2 by decide)⟩, (List.forall_mem_cons.mpr ⟨⟨(show (1 : Nat) ≠ 3 by decide), fun _ => (show (1 : Nat) ≠ 2 by decide)⟩, (List.forall_mem_cons.mpr ⟨⟨(show (2 : Nat) ≠ 3 by decide), fun _ => (show (1 : Nat) ≠ 2 by decide)⟩, (fun _ h9 => absurd h9 List.not_mem_nil)⟩)⟩)⟩) ?_
      refine o_iconst dL_level_13 ?_
      refine o_ret1 dL_level_14 trivial ?_
      exact h_no (by omega) hk hx9 hf9
    · cases hE
set_option maxRecDepth 100000 in
set_option maxHeartbeats 4000000 in
/-- the law's isLeased -/
theorem ct_L_isLeased {l : Launch} (hl : l.stackTraces = false) (d : Nat) (g M' : Nat → Nat → Int) (P' : List (Nat → Nat → Int)) (S' : Option (Nat → Nat → Int)) (T' : Nat → Nat → Int) (k : Int) (hk0 : 0 ≤ k) (v : Int) (hv : k = 0 → v = 0 ∨ v = 1) (i : Int) (hC : o_Ct l yX11_isLeased wX11_isLeased d o_no [.ref 0, .int (o_I i)] o_N (o_mem g) 1 6 (x_x ["java/lang/IndexOutOfBoundsException"] k (.int (o_I v)) M' P' S' T' g)) : o_Ct l yL_isLeased wL_isLeased (d + 1) o_no [.ref 0, .int (o_I i), .ref 201] o_N (o_mem g) 1 6 (h_x k 201 ((o_I v).toInt) M' P' S' T' g) := by
  refine o_Ct.ofVH hl mL_isLeased (by decide +kernel) rfl rfl (Nat.le_of_ble_eq_true rfl) ?_
  refine o_loc [(0, .ref 0), (1, .int (o_I i)), (2, .ref 201)] rfl ?_
  refine o_aload_n dL_isLeased_0 rfl ?_
  refine o_iconst dL_isLeased_1 ?_
  refine o_aload_n dL_isLeased_2 rfl ?_
  refine o_iload_n dL_isLeased_3 rfl ?_
  refine o_callV [.int (o_I i)] (rest := [.int (o_I 0), .ref 201]) hC dL_isLeased_4 ml_L_62 yw_X11_isLeased rfl (by decide) (by omega) (by decide) (by decide) (by decide) rfl rfl rfl (Nat.le_of_ble_eq_true rfl) (fun _ z => z.elim) (fun _ z => z.elim) (Or.inl fun _ z => z) (fun v9 n9 h9 q9 => ?_) (fun E n9 h9 q9 => ?_)
  · obtain ⟨rfl, ⟨g', rfl, hx9, hf9⟩, q⟩ := q9
    obtain ⟨hk, q⟩ := q.resolve_right (fun z => by obtain ⟨E', -, -, z⟩ := z; cases z)
    cases q
    refine o_if_eq (tgt := 14) dL_isLeased_7 (by decide) (by rcases hv hk with q | q <;> rw [q] <;> exact ⟨by decide, by decide⟩) (fun c9 => ?_) (fun c9 => ?_)
    · refine o_lconst dL_isLeased_14 ?_
      refine h_last (v := (o_I v).toInt) (by rw [c9]; decide) dL_isLeased_15 (fun g1 e9 => ?_)
      refine o_goto (tgt := 22) dL_isLeased_16 (by decide) ?_
      refine o_iconst dL_isLeased_22 ?_
      refine o_ret1 dL_isLeased_23 trivial ?_
      subst e9
      exact h_ok hk (Or.inl rfl) hx9 hf9
    · refine o_lconst dL_isLeased_10 ?_
      refine o_goto (tgt := 15) dL_isLeased_11 (by decide) ?_
      refine h_last (v := (o_I v).toInt) (by rw [(hv hk).resolve_left c9]; decide) dL_isLeased_15 (fun g1 e9 => ?_)
      refine o_goto (tgt := 22) dL_isLeased_16 (by decide) ?_
      refine o_iconst dL_isLeased_22 ?_
      refine o_ret1 dL_isLeased_23 trivial ?_
      subst e9
      exact h_ok hk (Or.inl rfl) hx9 hf9
  · obtain ⟨rfl, ⟨g', rfl, hx9, hf9⟩, q⟩ := q9
    rcases q with ⟨-, q⟩ | ⟨E', hk, hE, q⟩
    · cases q
    cases q
    obtain ⟨m9, hm9⟩ : ∃ m9 : Nat, (k - 1).toNat = m9 := ⟨_, rfl⟩
    rw [hm9] at hE
    rcases m9 with _ | m9
    · cases hE
      refine h_onN (k := 3) (pre := []) (suf := []) (a := 0) (b := 16) (hpc := 19) (ct := 28) (i := 3) rfl (fun _ h9 => absurd h9 List.not_mem_nil) ⟨by decide, by decide⟩ (by decide) hl_28 (List.mem_of_getElem? (i := 0) rfl) (by decide) rfl dL_isLeased_19 (List.forall_mem_cons.mpr ⟨⟨(show (0 : Nat) ≠ 3 by decide), fun _ => (show (1 : Nat) ≠ 2 by decide)⟩, (List.forall_mem_cons.mpr ⟨⟨(show (1 : Nat) ≠ 3 by decide), fun _ => (show (1 : Nat) ≠ 2 by decide)⟩, (List.forall_mem_cons.mpr ⟨⟨(show (2 : Nat) ≠ 3 by decide), fun _ => (show (1 : Nat) ≠ 2 by decide)⟩, (fun _ h9 => absurd h9 List.not_mem_nil)⟩)⟩)⟩) ?_
      refine o_iconst dL_isLeased_20 ?_
      refine o_ret1 dL_isLeased_21 trivial ?_
      exact h_no (by omega) hk hx9 hf9
    · cases hE
set_option maxRecDepth 100000 in
set_option maxHeartbeats 4000000 in
/-- the law's lessee -/
theorem ct_L_lessee {l : Launch} (hl : l.stackTraces = false) (d : Nat) (g M' : Nat → Nat → Int) (P' : List (Nat → Nat → Int)) (S' : Option (Nat → Nat → Int)) (T' : Nat → Nat → Int) (k : Int) (hk0 : 0 ≤ k) (v : Int) (i : Int) (hC : o_Ct l yX11_lessee wX11_lessee d o_no [.ref 0, .int (o_I i)] o_N (o_mem g) 1 6 (x_x ["java/lang/IndexOutOfBoundsException", "java/util/NoSuchElementException"] k (.int (o_I v)) M' P' S' T' g)) : o_Ct l yL_lessee wL_lessee (d + 1) o_no [.ref 0, .int (o_I i), .ref 201] o_N (o_mem g) 1 6 (h_x k 201 ((o_I v).toInt) M' P' S' T' g) := by
  refine o_Ct.ofVH hl mL_lessee (by decide +kernel) rfl rfl (Nat.le_of_ble_eq_true rfl) ?_
  refine o_loc [(0, .ref 0), (1, .int (o_I i)), (2, .ref 201)] rfl ?_
  refine o_aload_n dL_lessee_0 rfl ?_
  refine o_iconst dL_lessee_1 ?_
  refine o_aload_n dL_lessee_2 rfl ?_
  refine o_iload_n dL_lessee_3 rfl ?_
  refine o_callV [.int (o_I i)] (rest := [.int (o_I 0), .ref 201]) hC dL_lessee_4 ml_L_66 yw_X11_lessee rfl (by decide) (by omega) (by decide) (by decide) (by decide) rfl rfl rfl (Nat.le_of_ble_eq_true rfl) (fun _ z => z.elim) (fun _ z => z.elim) (Or.inl fun _ z => z) (fun v9 n9 h9 q9 => ?_) (fun E n9 h9 q9 => ?_)
  · obtain ⟨rfl, ⟨g', rfl, hx9, hf9⟩, q⟩ := q9
    obtain ⟨hk, q⟩ := q.resolve_right (fun z => by obtain ⟨E', -, -, z⟩ := z; cases z)
    cases q
    refine o_i2l dL_lessee_7 ?_
    refine h_last (v := (o_I v).toInt) (Int64.ofInt_int32ToInt _).symm dL_lessee_8 (fun g1 e9 => ?_)
    refine o_goto (tgt := 18) dL_lessee_9 (by decide) ?_
    refine o_iconst dL_lessee_18 ?_
    refine o_ret1 dL_lessee_19 trivial ?_
    subst e9
    exact h_ok hk (Or.inl rfl) hx9 hf9
  · obtain ⟨rfl, ⟨g', rfl, hx9, hf9⟩, q⟩ := q9
    rcases q with ⟨-, q⟩ | ⟨E', hk, hE, q⟩
    · cases q
    cases q
    obtain ⟨m9, hm9⟩ : ∃ m9 : Nat, (k - 1).toNat = m9 := ⟨_, rfl⟩
    rw [hm9] at hE
    rcases m9 with _ | _ | m9
    · cases hE
      refine h_onN (k := 3) (pre := []) (suf := [(0, 9, 15, 36)]) (a := 0) (b := 9) (hpc := 12) (ct := 28) (i := 3) rfl (fun _ h9 => absurd h9 List.not_mem_nil) ⟨by decide, by decide⟩ (by decide) hl_28 (List.mem_of_getElem? (i := 0) rfl) (by decide) rfl dL_lessee_12 (List.forall_mem_cons.mpr ⟨⟨(show (0 : Nat) ≠ 3 by decide), fun _ => (show (1 : Nat) ≠ 2 by decide)⟩, (List.forall_mem_cons.mpr ⟨⟨(show (1 : Nat) ≠ 3 by decide), fun _ => (show (1 : Nat) ≠ 2 by decide)⟩, (List.forall_mem_cons.mpr ⟨⟨(show (2 : Nat) ≠ 3 by decide), fun _ => (show (1 : Nat) ≠ 2 by decide)⟩, (fun _ h9 => absurd h9 List.not_mem_nil)⟩)⟩)⟩) ?_
      refine o_iconst dL_lessee_13 ?_
      refine o_ret1 dL_lessee_14 trivial ?_
      exact h_no (by omega) hk hx9 hf9
    · cases hE
      refine h_onN (k := 3) (pre := [(0, 9, 12, 28)]) (suf := []) (a := 0) (b := 9) (hpc := 15) (ct := 36) (i := 3) rfl (List.forall_mem_cons.mpr ⟨⟨(show (28 : Nat) ≠ 0 by decide), _, hl_28, List.mem_of_getElem? (i := 6) rfl⟩, (fun _ h9 => absurd h9 List.not_mem_nil)⟩) ⟨by decide, by decide⟩ (by decide) hl_36 (List.mem_of_getElem? (i := 3) rfl) (by decide) rfl dL_lessee_15 (List.forall_mem_cons.mpr ⟨⟨(show (0 : Nat) ≠ 3 by decide), fun _ => (show (1 : Nat) ≠ 2 by decide)⟩, (List.forall_mem_cons.mpr ⟨⟨(show (1 : Nat) ≠ 3 by decide), fun _ => (show (1 : Nat) ≠ 2 by decide)⟩, (List.forall_mem_cons.mpr ⟨⟨(show (2 : Nat) ≠ 3 by decide), fun _ => (show (1 : Nat) ≠ 2 by decide)⟩, (fun _ h9 => absurd h9 List.not_mem_nil)⟩)⟩)⟩) ?_
      refine o_iconst dL_lessee_16 ?_
      refine o_ret1 dL_lessee_17 trivial ?_
      exact h_no (by omega) hk hx9 hf9
    · cases hE
set_option maxRecDepth 100000 in
set_option maxHeartbeats 4000000 in
/-- the law's endHour -/
theorem ct_L_endHour {l : Launch} (hl : l.stackTraces = false) (d : Nat) (g M' : Nat → Nat → Int) (P' : List (Nat → Nat → Int)) (S' : Option (Nat → Nat → Int)) (T' : Nat → Nat → Int) (k : Int) (hk0 : 0 ≤ k) (v : Int) (i : Int) (hC : o_Ct l yX11_endHour wX11_endHour d o_no [.ref 0, .int (o_I i)] o_N (o_mem g) 1 6 (x_x ["java/lang/IndexOutOfBoundsException", "java/util/NoSuchElementException"] k (.int (o_I v)) M' P' S' T' g)) : o_Ct l yL_endHour wL_endHour (d + 1) o_no [.ref 0, .int (o_I i), .ref 201] o_N (o_mem g) 1 6 (h_x k 201 ((o_I v).toInt) M' P' S' T' g) := by
  refine o_Ct.ofVH hl mL_endHour (by decide +kernel) rfl rfl (Nat.le_of_ble_eq_true rfl) ?_
  refine o_loc [(0, .ref 0), (1, .int (o_I i)), (2, .ref 201)] rfl ?_
  refine o_aload_n dL_endHour_0 rfl ?_
  refine o_iconst dL_endHour_1 ?_
  refine o_aload_n dL_endHour_2 rfl ?_
  refine o_iload_n dL_endHour_3 rfl ?_
  refine o_callV [.int (o_I i)] (rest := [.int (o_I 0), .ref 201]) hC dL_endHour_4 ml_L_69 yw_X11_endHour rfl (by decide) (by omega) (by decide) (by decide) (by decide) rfl rfl rfl (Nat.le_of_ble_eq_true rfl) (fun _ z => z.elim) (fun _ z => z.elim) (Or.inl fun _ z => z) (fun v9 n9 h9 q9 => ?_) (fun E n9 h9 q9 => ?_)
  · obtain ⟨rfl, ⟨g', rfl, hx9, hf9⟩, q⟩ := q9
    obtain ⟨hk, q⟩ := q.resolve_right (fun z => by obtain ⟨E', -, -, z⟩ := z; cases z)
    cases q
    refine o_i2l dL_endHour_7 ?_
    refine h_last (v := (o_I v).toInt) (Int64.ofInt_int32ToInt _).symm dL_endHour_8 (fun g1 e9 => ?_)
    refine o_goto (tgt := 18) dL_endHour_9 (by decide) ?_
    refine o_iconst dL_endHour_18 ?_
    refine o_ret1 dL_endHour_19 trivial ?_
    subst e9
    exact h_ok hk (Or.inl rfl) hx9 hf9
  · obtain ⟨rfl, ⟨g', rfl, hx9, hf9⟩, q⟩ := q9
    rcases q with ⟨-, q⟩ | ⟨E', hk, hE, q⟩
    · cases q
    cases q
    obtain ⟨m9, hm9⟩ : ∃ m9 : Nat, (k - 1).toNat = m9 := ⟨_, rfl⟩
    rw [hm9] at hE
    rcases m9 with _ | _ | m9
    · cases hE
      refine h_onN (k := 3) (pre := []) (suf := [(0, 9, 15, 36)]) (a := 0) (b := 9) (hpc := 12) (ct := 28) (i := 3) rfl (fun _ h9 => absurd h9 List.not_mem_nil) ⟨by decide, by decide⟩ (by decide) hl_28 (List.mem_of_getElem? (i := 0) rfl) (by decide) rfl dL_endHour_12 (List.forall_mem_cons.mpr ⟨⟨(show (0 : Nat) ≠ 3 by decide), fun _ => (show (1 : Nat) ≠ 2 by decide)⟩, (List.forall_mem_cons.mpr ⟨⟨(show (1 : Nat) ≠ 3 by decide), fun _ => (show (1 : Nat) ≠ 2 by decide)⟩, (List.forall_mem_cons.mpr ⟨⟨(show (2 : Nat) ≠ 3 by decide), fun _ => (show (1 : Nat) ≠ 2 by decide)⟩, (fun _ h9 => absurd h9 List.not_mem_nil)⟩)⟩)⟩) ?_
      refine o_iconst dL_endHour_13 ?_
      refine o_ret1 dL_endHour_14 trivial ?_
      exact h_no (by omega) hk hx9 hf9
    · cases hE
      refine h_onN (k := 3) (pre := [(0, 9, 12, 28)]) (suf := []) (a := 0) (b := 9) (hpc := 15) (ct := 36) (i := 3) rfl (List.forall_mem_cons.mpr ⟨⟨(show (28 : Nat) ≠ 0 by decide), _, hl_28, List.mem_of_getElem? (i := 6) rfl⟩, (fun _ h9 => absurd h9 List.not_mem_nil)⟩) ⟨by decide, by decide⟩ (by decide) hl_36 (List.mem_of_getElem? (i := 3) rfl) (by decide) rfl dL_endHour_15 (List.forall_mem_cons.mpr ⟨⟨(show (0 : Nat) ≠ 3 by decide), fun _ => (show (1 : Nat) ≠ 2 by decide)⟩, (List.forall_mem_cons.mpr ⟨⟨(show (1 : Nat) ≠ 3 by decide), fun _ => (show (1 : Nat) ≠ 2 by decide)⟩, (List.forall_mem_cons.mpr ⟨⟨(show (2 : Nat) ≠ 3 by decide), fun _ => (show (1 : Nat) ≠ 2 by decide)⟩, (fun _ h9 => absurd h9 List.not_mem_nil)⟩)⟩)⟩) ?_
      refine o_iconst dL_endHour_16 ?_
      refine o_ret1 dL_endHour_17 trivial ?_
      exact h_no (by omega) hk hx9 hf9
    · cases hE
set_option maxRecDepth 100000 in
set_option maxHeartbeats 4000000 in
/-- the law's brightHours -/
theorem ct_L_brightHours {l : Launch} (hl : l.stackTraces = false) (d : Nat) (g M' : Nat → Nat → Int) (P' : List (Nat → Nat → Int)) (S' : Option (Nat → Nat → Int)) (T' : Nat → Nat → Int) (k : Int) (hk0 : 0 ≤ k) (v : Int) (i : Int) (hC : o_Ct l yX11_brightHours wX11_brightHours d o_no [.ref 0, .int (o_I i)] o_N (o_mem g) 1 6 (x_x ["java/lang/IndexOutOfBoundsException"] k (.int (o_I v)) M' P' S' T' g)) : o_Ct l yL_brightHours wL_brightHours (d + 1) o_no [.ref 0, .int (o_I i), .ref 201] o_N (o_mem g) 1 6 (h_x k 201 ((o_I v).toInt) M' P' S' T' g) := by
  refine o_Ct.ofVH hl mL_brightHours (by decide +kernel) rfl rfl (Nat.le_of_ble_eq_true rfl) ?_
  refine o_loc [(0, .ref 0), (1, .int (o_I i)), (2, .ref 201)] rfl ?_
  refine o_aload_n dL_brightHours_0 rfl ?_
  refine o_iconst dL_brightHours_1 ?_
  refine o_aload_n dL_brightHours_2 rfl ?_
  refine o_iload_n dL_brightHours_3 rfl ?_
  refine o_callV [.int (o_I i)] (rest := [.int (o_I 0), .ref 201]) hC dL_brightHours_4 ml_L_72 yw_X11_brightHours rfl (by decide) (by omega) (by decide) (by decide) (by decide) rfl rfl rfl (Nat.le_of_ble_eq_true rfl) (fun _ z => z.elim) (fun _ z => z.elim) (Or.inl fun _ z => z) (fun v9 n9 h9 q9 => ?_) (fun E n9 h9 q9 => ?_)
  · obtain ⟨rfl, ⟨g', rfl, hx9, hf9⟩, q⟩ := q9
    obtain ⟨hk, q⟩ := q.resolve_right (fun z => by obtain ⟨E', -, -, z⟩ := z; cases z)
    cases q
    refine o_i2l dL_brightHours_7 ?_
    refine h_last (v := (o_I v).toInt) (Int64.ofInt_int32ToInt _).symm dL_brightHours_8 (fun g1 e9 => ?_)
    refine o_goto (tgt := 15) dL_brightHours_9 (by decide) ?_
    refine o_iconst dL_brightHours_15 ?_
    refine o_ret1 dL_brightHours_16 trivial ?_
    subst e9
    exact h_ok hk (Or.inl rfl) hx9 hf9
  · obtain ⟨rfl, ⟨g', rfl, hx9, hf9⟩, q⟩ := q9
    rcases q with ⟨-, q⟩ | ⟨E', hk, hE, q⟩
    · cases q
    cases q
    obtain ⟨m9, hm9⟩ : ∃ m9 : Nat, (k - 1).toNat = m9 := ⟨_, rfl⟩
    rw [hm9] at hE
    rcases m9 with _ | m9
    · cases hE
      refine h_onN (k := 3) (pre := []) (suf := []) (a := 0) (b := 9) (hpc := 12) (ct := 28) (i := 3) rfl (fun _ h9 => absurd h9 List.not_mem_nil) ⟨by decide, by decide⟩ (by decide) hl_28 (List.mem_of_getElem? (i := 0) rfl) (by decide) rfl dL_brightHours_12 (List.forall_mem_cons.mpr ⟨⟨(show (0 : Nat) ≠ 3 by decide), fun _ => (show (1 : Nat) ≠ 2 by decide)⟩, (List.forall_mem_cons.mpr ⟨⟨(show (1 : Nat) ≠ 3 by decide), fun _ => (show (1 : Nat) ≠ 2 by decide)⟩, (List.forall_mem_cons.mpr ⟨⟨(show (2 : Nat) ≠ 3 by decide), fun _ => (show (1 : Nat) ≠ 2 by decide)⟩, (fun _ h9 => absurd h9 List.not_mem_nil)⟩)⟩)⟩) ?_
      refine o_iconst dL_brightHours_13 ?_
      refine o_ret1 dL_brightHours_14 trivial ?_
      exact h_no (by omega) hk hx9 hf9
    · cases hE
set_option maxRecDepth 100000 in
set_option maxHeartbeats 4000000 in
/-- the law's wasBright -/
theorem ct_L_wasBright {l : Launch} (hl : l.stackTraces = false) (d : Nat) (g M' : Nat → Nat → Int) (P' : List (Nat → Nat → Int)) (S' : Option (Nat → Nat → Int)) (T' : Nat → Nat → Int) (k : Int) (hk0 : 0 ≤ k) (v : Int) (hv : k = 0 → v = 0 ∨ v = 1) (i : Int) (hC : o_Ct l yX11_wasBright wX11_wasBright d o_no [.ref 0, .int (o_I i)] o_N (o_mem g) 1 6 (x_x ["java/lang/IndexOutOfBoundsException"] k (.int (o_I v)) M' P' S' T' g)) : o_Ct l yL_wasBright wL_wasBright (d + 1) o_no [.ref 0, .int (o_I i), .ref 201] o_N (o_mem g) 1 6 (h_x k 201 ((o_I v).toInt) M' P' S' T' g) := by
  refine o_Ct.ofVH hl mL_wasBright (by decide +kernel) rfl rfl (Nat.le_of_ble_eq_true rfl) ?_
  refine o_loc [(0, .ref 0), (1, .int (o_I i)), (2, .ref 201)] rfl ?_
  refine o_aload_n dL_wasBright_0 rfl ?_
  refine o_iconst dL_wasBright_1 ?_
  refine o_aload_n dL_wasBright_2 rfl ?_
  refine o_iload_n dL_wasBright_3 rfl ?_
  refine o_callV [.int (o_I i)] (rest := [.int (o_I 0), .ref 201]) hC dL_wasBright_4 ml_L_75 yw_X11_wasBright rfl (by decide) (by omega) (by decide) (by decide) (by decide) rfl rfl rfl (Nat.le_of_ble_eq_true rfl) (fun _ z => z.elim) (fun _ z => z.elim) (Or.inl fun _ z => z) (fun v9 n9 h9 q9 => ?_) (fun E n9 h9 q9 => ?_)
  · obtain ⟨rfl, ⟨g', rfl, hx9, hf9⟩, q⟩ := q9
    obtain ⟨hk, q⟩ := q.resolve_right (fun z => by obtain ⟨E', -, -, z⟩ := z; cases z)
    cases q
    refine o_if_eq (tgt := 14) dL_wasBright_7 (by decide) (by rcases hv hk with q | q <;> rw [q] <;> exact ⟨by decide, by decide⟩) (fun c9 => ?_) (fun c9 => ?_)
    · refine o_lconst dL_wasBright_14 ?_
      refine h_last (v := (o_I v).toInt) (by rw [c9]; decide) dL_wasBright_15 (fun g1 e9 => ?_)
      refine o_goto (tgt := 22) dL_wasBright_16 (by decide) ?_
      refine o_iconst dL_wasBright_22 ?_
      refine o_ret1 dL_wasBright_23 trivial ?_
      subst e9
      exact h_ok hk (Or.inl rfl) hx9 hf9
    · refine o_lconst dL_wasBright_10 ?_
      refine o_goto (tgt := 15) dL_wasBright_11 (by decide) ?_
      refine h_last (v := (o_I v).toInt) (by rw [(hv hk).resolve_left c9]; decide) dL_wasBright_15 (fun g1 e9 => ?_)
      refine o_goto (tgt := 22) dL_wasBright_16 (by decide) ?_
      refine o_iconst dL_wasBright_22 ?_
      refine o_ret1 dL_wasBright_23 trivial ?_
      subst e9
      exact h_ok hk (Or.inl rfl) hx9 hf9
  · obtain ⟨rfl, ⟨g', rfl, hx9, hf9⟩, q⟩ := q9
    rcases q with ⟨-, q⟩ | ⟨E', hk, hE, q⟩
    · cases q
    cases q
    obtain ⟨m9, hm9⟩ : ∃ m9 : Nat, (k - 1).toNat = m9 := ⟨_, rfl⟩
    rw [hm9] at hE
    rcases m9 with _ | m9
    · cases hE
      refine h_onN (k := 3) (pre := []) (suf := []) (a := 0) (b := 16) (hpc := 19) (ct := 28) (i := 3) rfl (fun _ h9 => absurd h9 List.not_mem_nil) ⟨by decide, by decide⟩ (by decide) hl_28 (List.mem_of_getElem? (i := 0) rfl) (by decide) rfl dL_wasBright_19 (List.forall_mem_cons.mpr ⟨⟨(show (0 : Nat) ≠ 3 by decide), fun _ => (show (1 : Nat) ≠ 2 by decide)⟩, (List.forall_mem_cons.mpr ⟨⟨(show (1 : Nat) ≠ 3 by decide), fun _ => (show (1 : Nat) ≠ 2 by decide)⟩, (List.forall_mem_cons.mpr ⟨⟨(show (2 : Nat) ≠ 3 by decide), fun _ => (show (1 : Nat) ≠ 2 by decide)⟩, (fun _ h9 => absurd h9 List.not_mem_nil)⟩)⟩)⟩) ?_
      refine o_iconst dL_wasBright_20 ?_
      refine o_ret1 dL_wasBright_21 trivial ?_
      exact h_no (by omega) hk hx9 hf9
    · cases hE
set_option maxRecDepth 100000 in
set_option maxHeartbeats 4000000 in
/-- the law's hoursOfOil -/
theorem ct_L_hoursOfOil {l : Launch} (hl : l.stackTraces = false) (d : Nat) (g M' : Nat → Nat → Int) (P' : List (Nat → Nat → Int)) (S' : Option (Nat → Nat → Int)) (T' : Nat → Nat → Int) (k : Int) (hk0 : 0 ≤ k) (v : Int) (hC : o_Ct l yX11_hoursOfOil wX11_hoursOfOil d o_no [.ref 0] o_N (o_mem g) 1 6 (x_x ["java/util/NoSuchElementException"] k (.int (o_I v)) M' P' S' T' g)) : o_Ct l yL_hoursOfOil wL_hoursOfOil (d + 1) o_no [.ref 0, .ref 201] o_N (o_mem g) 1 6 (h_x k 201 ((o_I v).toInt) M' P' S' T' g) := by
  refine o_Ct.ofVH hl mL_hoursOfOil (by decide +kernel) rfl rfl (Nat.le_of_ble_eq_true rfl) ?_
  refine o_loc [(0, .ref 0), (1, .ref 201)] rfl ?_
  refine o_aload_n dL_hoursOfOil_0 rfl ?_
  refine o_iconst dL_hoursOfOil_1 ?_
  refine o_aload_n dL_hoursOfOil_2 rfl ?_
  refine o_callV [] (rest := [.int (o_I 0), .ref 201]) hC dL_hoursOfOil_3 ml_L_78 yw_X11_hoursOfOil rfl (by decide) (by omega) (by decide) (by decide) (by decide) rfl rfl rfl (Nat.le_of_ble_eq_true rfl) (fun _ z => z.elim) (fun _ z => z.elim) (Or.inl fun _ z => z) (fun v9 n9 h9 q9 => ?_) (fun E n9 h9 q9 => ?_)
  · obtain ⟨rfl, ⟨g', rfl, hx9, hf9⟩, q⟩ := q9
    obtain ⟨hk, q⟩ := q.resolve_right (fun z => by obtain ⟨E', -, -, z⟩ := z; cases z)
    cases q
    refine o_i2l dL_hoursOfOil_6 ?_
    refine h_last (v := (o_I v).toInt) (Int64.ofInt_int32ToInt _).symm dL_hoursOfOil_7 (fun g1 e9 => ?_)
    refine o_goto (tgt := 14) dL_hoursOfOil_8 (by decide) ?_
    refine o_iconst dL_hoursOfOil_14 ?_
    refine o_ret1 dL_hoursOfOil_15 trivial ?_
    subst e9
    exact h_ok hk (Or.inl rfl) hx9 hf9
  · obtain ⟨rfl, ⟨g', rfl, hx9, hf9⟩, q⟩ := q9
    rcases q with ⟨-, q⟩ | ⟨E', hk, hE, q⟩
    · cases q
    cases q
    obtain ⟨m9, hm9⟩ : ∃ m9 : Nat, (k - 1).toNat = m9 := ⟨_, rfl⟩
    rw [hm9] at hE
    rcases m9 with _ | m9
    · cases hE
      refine h_onN (k := 2) (pre := []) (suf := []) (a := 0) (b := 8) (hpc := 11) (ct := 36) (i := 2) rfl (fun _ h9 => absurd h9 List.not_mem_nil) ⟨by decide, by decide⟩ (by decide) hl_36 (List.mem_of_getElem? (i := 3) rfl) (by decide) rfl dL_hoursOfOil_11 (List.forall_mem_cons.mpr ⟨⟨(show (0 : Nat) ≠ 2 by decide), fun _ => (show (1 : Nat) ≠ 2 by decide)⟩, (List.forall_mem_cons.mpr ⟨⟨(show (1 : Nat) ≠ 2 by decide), fun _ => (show (1 : Nat) ≠ 2 by decide)⟩, (fun _ h9 => absurd h9 List.not_mem_nil)⟩)⟩) ?_
      refine o_iconst dL_hoursOfOil_12 ?_
      refine o_ret1 dL_hoursOfOil_13 trivial ?_
      exact h_no (by omega) hk hx9 hf9
    · cases hE
set_option maxRecDepth 100000 in
set_option maxHeartbeats 4000000 in
/-- the law's hoursOfOilByEnds -/
theorem ct_L_hoursOfOilByEnds {l : Launch} (hl : l.stackTraces = false) (d : Nat) (g M' : Nat → Nat → Int) (P' : List (Nat → Nat → Int)) (S' : Option (Nat → Nat → Int)) (T' : Nat → Nat → Int) (k : Int) (hk0 : 0 ≤ k) (v : Int) (hC : o_Ct l yX11_hoursOfOilByEnds wX11_hoursOfOilByEnds d o_no [.ref 0] o_N (o_mem g) 1 6 (x_x ["java/util/NoSuchElementException"] k (.int (o_I v)) M' P' S' T' g)) : o_Ct l yL_hoursOfOilByEnds wL_hoursOfOilByEnds (d + 1) o_no [.ref 0, .ref 201] o_N (o_mem g) 1 6 (h_x k 201 ((o_I v).toInt) M' P' S' T' g) := by
  refine o_Ct.ofVH hl mL_hoursOfOilByEnds (by decide +kernel) rfl rfl (Nat.le_of_ble_eq_true rfl) ?_
  refine o_loc [(0, .ref 0), (1, .ref 201)] rfl ?_
  refine o_aload_n dL_hoursOfOilByEnds_0 rfl ?_
  refine o_iconst dL_hoursOfOilByEnds_1 ?_
  refine o_aload_n dL_hoursOfOilByEnds_2 rfl ?_
  refine o_callV [] (rest := [.int (o_I 0), .ref 201]) hC dL_hoursOfOilByEnds_3 ml_L_81 yw_X11_hoursOfOilByEnds rfl (by decide) (by omega) (by decide) (by decide) (by decide) rfl rfl rfl (Nat.le_of_ble_eq_true rfl) (fun _ z => z.elim) (fun _ z => z.elim) (Or.inl fun _ z => z) (fun v9 n9 h9 q9 => ?_) (fun E n9 h9 q9 => ?_)
  · obtain ⟨rfl, ⟨g', rfl, hx9, hf9⟩, q⟩ := q9
    obtain ⟨hk, q⟩ := q.resolve_right (fun z => by obtain ⟨E', -, -, z⟩ := z; cases z)
    cases q
    refine o_i2l dL_hoursOfOilByEnds_6 ?_
    refine h_last (v := (o_I v).toInt) (Int64.ofInt_int32ToInt _).symm dL_hoursOfOilByEnds_7 (fun g1 e9 => ?_)
    refine o_goto (tgt := 14) dL_hoursOfOilByEnds_8 (by decide) ?_
    refine o_iconst dL_hoursOfOilByEnds_14 ?_
    refine o_ret1 dL_hoursOfOilByEnds_15 trivial ?_
    subst e9
    exact h_ok hk (Or.inl rfl) hx9 hf9
  · obtain ⟨rfl, ⟨g', rfl, hx9, hf9⟩, q⟩ := q9
    rcases q with ⟨-, q⟩ | ⟨E', hk, hE, q⟩
    · cases q
    cases q
    obtain ⟨m9, hm9⟩ : ∃ m9 : Nat, (k - 1).toNat = m9 := ⟨_, rfl⟩
    rw [hm9] at hE
    rcases m9 with _ | m9
    · cases hE
      refine h_onN (k := 2) (pre := []) (suf := []) (a := 0) (b := 8) (hpc := 11) (ct := 36) (i := 2) rfl (fun _ h9 => absurd h9 List.not_mem_nil) ⟨by decide, by decide⟩ (by decide) hl_36 (List.mem_of_getElem? (i := 3) rfl) (by decide) rfl dL_hoursOfOilByEnds_11 (List.forall_mem_cons.mpr ⟨⟨(show (0 : Nat) ≠ 2 by decide), fun _ => (show (1 : Nat) ≠ 2 by decide)⟩, (List.forall_mem_cons.mpr ⟨⟨(show (1 : Nat) ≠ 2 by decide), fun _ => (show (1 : Nat) ≠ 2 by decide)⟩, (fun _ h9 => absurd h9 List.not_mem_nil)⟩)⟩) ?_
      refine o_iconst dL_hoursOfOilByEnds_12 ?_
      refine o_ret1 dL_hoursOfOilByEnds_13 trivial ?_
      exact h_no (by omega) hk hx9 hf9
    · cases hE
set_option maxRecDepth 100000 in
set_option maxHeartbeats 4000000 in
/-- the law's share -/
theorem ct_L_share {l : Launch} (hl : l.stackTraces = false) (d : Nat) (g M' : Nat → Nat → Int) (P' : List (Nat → Nat → Int)) (S' : Option (Nat → Nat → Int)) (T' : Nat → Nat → Int) (k : Int) (hk0 : 0 ≤ k) (v : Int) (i : Int) (hC : o_Ct l yX11_share wX11_share d o_no [.ref 0, .int (o_I i)] o_N (o_mem g) 1 6 (x_x ["java/lang/IndexOutOfBoundsException"] k (.int (o_I v)) M' P' S' T' g)) : o_Ct l yL_share wL_share (d + 1) o_no [.ref 0, .int (o_I i), .ref 201] o_N (o_mem g) 1 6 (h_x k 201 ((o_I v).toInt) M' P' S' T' g) := by
  refine o_Ct.ofVH hl mL_share (by decide +kernel) rfl rfl (Nat.le_of_ble_eq_true rfl) ?_
  refine o_loc [(0, .ref 0), (1, .int (o_I i)), (2, .ref 201)] rfl ?_
  refine o_aload_n dL_share_0 rfl ?_
  refine o_iconst dL_share_1 ?_
  refine o_aload_n dL_share_2 rfl ?_
  refine o_iload_n dL_share_3 rfl ?_
  refine o_callV [.int (o_I i)] (rest := [.int (o_I 0), .ref 201]) hC dL_share_4 ml_L_84 yw_X11_share rfl (by decide) (by omega) (by decide) (by decide) (by decide) rfl rfl rfl (Nat.le_of_ble_eq_true rfl) (fun _ z => z.elim) (fun _ z => z.elim) (Or.inl fun _ z => z) (fun v9 n9 h9 q9 => ?_) (fun E n9 h9 q9 => ?_)
  · obtain ⟨rfl, ⟨g', rfl, hx9, hf9⟩, q⟩ := q9
    obtain ⟨hk, q⟩ := q.resolve_right (fun z => by obtain ⟨E', -, -, z⟩ := z; cases z)
    cases q
    refine o_i2l dL_share_7 ?_
    refine h_last (v := (o_I v).toInt) (Int64.ofInt_int32ToInt _).symm dL_share_8 (fun g1 e9 => ?_)
    refine o_goto (tgt := 15) dL_share_9 (by decide) ?_
    refine o_iconst dL_share_15 ?_
    refine o_ret1 dL_share_16 trivial ?_
    subst e9
    exact h_ok hk (Or.inl rfl) hx9 hf9
  · obtain ⟨rfl, ⟨g', rfl, hx9, hf9⟩, q⟩ := q9
    rcases q with ⟨-, q⟩ | ⟨E', hk, hE, q⟩
    · cases q
    cases q
    obtain ⟨m9, hm9⟩ : ∃ m9 : Nat, (k - 1).toNat = m9 := ⟨_, rfl⟩
    rw [hm9] at hE
    rcases m9 with _ | m9
    · cases hE
      refine h_onN (k := 3) (pre := []) (suf := []) (a := 0) (b := 9) (hpc := 12) (ct := 28) (i := 3) rfl (fun _ h9 => absurd h9 List.not_mem_nil) ⟨by decide, by decide⟩ (by decide) hl_28 (List.mem_of_getElem? (i := 0) rfl) (by decide) rfl dL_share_12 (List.forall_mem_cons.mpr ⟨⟨(show (0 : Nat) ≠ 3 by decide), fun _ => (show (1 : Nat) ≠ 2 by decide)⟩, (List.forall_mem_cons.mpr ⟨⟨(show (1 : Nat) ≠ 3 by decide), fun _ => (show (1 : Nat) ≠ 2 by decide)⟩, (List.forall_mem_cons.mpr ⟨⟨(show (2 : Nat) ≠ 3 by decide), fun _ => (show (1 : Nat) ≠ 2 by decide)⟩, (fun _ h9 => absurd h9 List.not_mem_nil)⟩)⟩)⟩) ?_
      refine o_iconst dL_share_13 ?_
      refine o_ret1 dL_share_14 trivial ?_
      exact h_no (by omega) hk hx9 hf9
    · cases hE
set_option maxRecDepth 100000 in
set_option maxHeartbeats 4000000 in
/-- the law's shareByRank -/
theorem ct_L_shareByRank {l : Launch} (hl : l.stackTraces = false) (d : Nat) (g M' : Nat → Nat → Int) (P' : List (Nat → Nat → Int)) (S' : Option (Nat → Nat → Int)) (T' : Nat → Nat → Int) (k : Int) (hk0 : 0 ≤ k) (v : Int) (i : Int) (hC : o_Ct l yX11_shareByRank wX11_shareByRank d o_no [.ref 0, .int (o_I i)] o_N (o_mem g) 1 6 (x_x ["java/lang/IndexOutOfBoundsException"] k (.int (o_I v)) M' P' S' T' g)) : o_Ct l yL_shareByRank wL_shareByRank (d + 1) o_no [.ref 0, .int (o_I i), .ref 201] o_N (o_mem g) 1 6 (h_x k 201 ((o_I v).toInt) M' P' S' T' g) := by
  refine o_Ct.ofVH hl mL_shareByRank (by decide +kernel) rfl rfl (Nat.le_of_ble_eq_true rfl) ?_
  refine o_loc [(0, .ref 0), (1, .int (o_I i)), (2, .ref 201)] rfl ?_
  refine o_aload_n dL_shareByRank_0 rfl ?_
  refine o_iconst dL_shareByRank_1 ?_
  refine o_aload_n dL_shareByRank_2 rfl ?_
  refine o_iload_n dL_shareByRank_3 rfl ?_
  refine o_callV [.int (o_I i)] (rest := [.int (o_I 0), .ref 201]) hC dL_shareByRank_4 ml_L_87 yw_X11_shareByRank rfl (by decide) (by omega) (by decide) (by decide) (by decide) rfl rfl rfl (Nat.le_of_ble_eq_true rfl) (fun _ z => z.elim) (fun _ z => z.elim) (Or.inl fun _ z => z) (fun v9 n9 h9 q9 => ?_) (fun E n9 h9 q9 => ?_)
  · obtain ⟨rfl, ⟨g', rfl, hx9, hf9⟩, q⟩ := q9
    obtain ⟨hk, q⟩ := q.resolve_right (fun z => by obtain ⟨E', -, -, z⟩ := z; cases z)
    cases q
    refine o_i2l dL_shareByRank_7 ?_
    refine h_last (v := (o_I v).toInt) (Int64.ofInt_int32ToInt _).symm dL_shareByRank_8 (fun g1 e9 => ?_)
    refine o_goto (tgt := 15) dL_shareByRank_9 (by decide) ?_
    refine o_iconst dL_shareByRank_15 ?_
    refine o_ret1 dL_shareByRank_16 trivial ?_
    subst e9
    exact h_ok hk (Or.inl rfl) hx9 hf9
  · obtain ⟨rfl, ⟨g', rfl, hx9, hf9⟩, q⟩ := q9
    rcases q with ⟨-, q⟩ | ⟨E', hk, hE, q⟩
    · cases q
    cases q
    obtain ⟨m9, hm9⟩ : ∃ m9 : Nat, (k - 1).toNat = m9 := ⟨_, rfl⟩
    rw [hm9] at hE
    rcases m9 with _ | m9
    · cases hE
      refine h_onN (k := 3) (pre := []) (suf := []) (a := 0) (b := 9) (hpc := 12) (ct := 28) (i := 3) rfl (fun _ h9 => absurd h9 List.not_mem_nil) ⟨by decide, by decide⟩ (by decide) hl_28 (List.mem_of_getElem? (i := 0) rfl) (by decide) rfl dL_shareByRank_12 (List.forall_mem_cons.mpr ⟨⟨(show (0 : Nat) ≠ 3 by decide), fun _ => (show (1 : Nat) ≠ 2 by decide)⟩, (List.forall_mem_cons.mpr ⟨⟨(show (1 : Nat) ≠ 3 by decide), fun _ => (show (1 : Nat) ≠ 2 by decide)⟩, (List.forall_mem_cons.mpr ⟨⟨(show (2 : Nat) ≠ 3 by decide), fun _ => (show (1 : Nat) ≠ 2 by decide)⟩, (fun _ h9 => absurd h9 List.not_mem_nil)⟩)⟩)⟩) ?_
      refine o_iconst dL_shareByRank_13 ?_
      refine o_ret1 dL_shareByRank_14 trivial ?_
      exact h_no (by omega) hk hx9 hf9
    · cases hE
set_option maxRecDepth 100000 in
set_option maxHeartbeats 4000000 in
/-- the law's requestedLamp -/
theorem ct_L_requestedLamp {l : Launch} (hl : l.stackTraces = false) (d : Nat) (g M' : Nat → Nat → Int) (P' : List (Nat → Nat → Int)) (S' : Option (Nat → Nat → Int)) (T' : Nat → Nat → Int) (k : Int) (hk0 : 0 ≤ k) (v : Int) (i : Int) (hC : o_Ct l yX11_requestedLamp wX11_requestedLamp d o_no [.ref 0, .int (o_I i)] o_N (o_mem g) 1 6 (x_x ["java/util/NoSuchElementException"] k (.int (o_I v)) M' P' S' T' g)) : o_Ct l yL_requestedLamp wL_requestedLamp (d + 1) o_no [.ref 0, .int (o_I i), .ref 201] o_N (o_mem g) 1 6 (h_x k 201 ((o_I v).toInt) M' P' S' T' g) := by
  refine o_Ct.ofVH hl mL_requestedLamp (by decide +kernel) rfl rfl (Nat.le_of_ble_eq_true rfl) ?_
  refine o_loc [(0, .ref 0), (1, .int (o_I i)), (2, .ref 201)] rfl ?_
  refine o_aload_n dL_requestedLamp_0 rfl ?_
  refine o_iconst dL_requestedLamp_1 ?_
  refine o_aload_n dL_requestedLamp_2 rfl ?_
  refine o_iload_n dL_requestedLamp_3 rfl ?_
  refine o_callV [.int (o_I i)] (rest := [.int (o_I 0), .ref 201]) hC dL_requestedLamp_4 ml_L_90 yw_X11_requestedLamp rfl (by decide) (by omega) (by decide) (by decide) (by decide) rfl rfl rfl (Nat.le_of_ble_eq_true rfl) (fun _ z => z.elim) (fun _ z => z.elim) (Or.inl fun _ z => z) (fun v9 n9 h9 q9 => ?_) (fun E n9 h9 q9 => ?_)
  · obtain ⟨rfl, ⟨g', rfl, hx9, hf9⟩, q⟩ := q9
    obtain ⟨hk, q⟩ := q.resolve_right (fun z => by obtain ⟨E', -, -, z⟩ := z; cases z)
    cases q
    refine o_i2l dL_requestedLamp_7 ?_
    refine h_last (v := (o_I v).toInt) (Int64.ofInt_int32ToInt _).symm dL_requestedLamp_8 (fun g1 e9 => ?_)
    refine o_goto (tgt := 15) dL_requestedLamp_9 (by decide) ?_
    refine o_iconst dL_requestedLamp_15 ?_
    refine o_ret1 dL_requestedLamp_16 trivial ?_
    subst e9
    exact h_ok hk (Or.inl rfl) hx9 hf9
  · obtain ⟨rfl, ⟨g', rfl, hx9, hf9⟩, q⟩ := q9
    rcases q with ⟨-, q⟩ | ⟨E', hk, hE, q⟩
    · cases q
    cases q
    obtain ⟨m9, hm9⟩ : ∃ m9 : Nat, (k - 1).toNat = m9 := ⟨_, rfl⟩
    rw [hm9] at hE
    rcases m9 with _ | m9
    · cases hE
      refine h_onN (k := 3) (pre := []) (suf := []) (a := 0) (b := 9) (hpc := 12) (ct := 36) (i := 3) rfl (fun _ h9 => absurd h9 List.not_mem_nil) ⟨by decide, by decide⟩ (by decide) hl_36 (List.mem_of_getElem? (i := 3) rfl) (by decide) rfl dL_requestedLamp_12 (List.forall_mem_cons.mpr ⟨⟨(show (0 : Nat) ≠ 3 by decide), fun _ => (show (1 : Nat) ≠ 2 by decide)⟩, (List.forall_mem_cons.mpr ⟨⟨(show (1 : Nat) ≠ 3 by decide), fun _ => (show (1 : Nat) ≠ 2 by decide)⟩, (List.forall_mem_cons.mpr ⟨⟨(show (2 : Nat) ≠ 3 by decide), fun _ => (show (1 : Nat) ≠ 2 by decide)⟩, (fun _ h9 => absurd h9 List.not_mem_nil)⟩)⟩)⟩) ?_
      refine o_iconst dL_requestedLamp_13 ?_
      refine o_ret1 dL_requestedLamp_14 trivial ?_
      exact h_no (by omega) hk hx9 hf9
    · cases hE
set_option maxRecDepth 100000 in
set_option maxHeartbeats 4000000 in
/-- the law's requestedHours -/
theorem ct_L_requestedHours {l : Launch} (hl : l.stackTraces = false) (d : Nat) (g M' : Nat → Nat → Int) (P' : List (Nat → Nat → Int)) (S' : Option (Nat → Nat → Int)) (T' : Nat → Nat → Int) (k : Int) (hk0 : 0 ≤ k) (v : Int) (i : Int) (hC : o_Ct l yX11_requestedHours wX11_requestedHours d o_no [.ref 0, .int (o_I i)] o_N (o_mem g) 1 6 (x_x ["java/util/NoSuchElementException"] k (.int (o_I v)) M' P' S' T' g)) : o_Ct l yL_requestedHours wL_requestedHours (d + 1) o_no [.ref 0, .int (o_I i), .ref 201] o_N (o_mem g) 1 6 (h_x k 201 ((o_I v).toInt) M' P' S' T' g) := by
  refine o_Ct.ofVH hl mL_requestedHours (by decide +kernel) rfl rfl (Nat.le_of_ble_eq_true rfl) ?_
  refine o_loc [(0, .ref 0), (1, .int (o_I i)), (2, .ref 201)] rfl ?_
  refine o_aload_n dL_requestedHours_0 rfl ?_
  refine o_iconst dL_requestedHours_1 ?_
  refine o_aload_n dL_requestedHours_2 rfl ?_
  refine o_iload_n dL_requestedHours_3 rfl ?_
  refine o_callV [.int (o_I i)] (rest := [.int (o_I 0), .ref 201]) hC dL_requestedHours_4 ml_L_93 yw_X11_requestedHours rfl (by decide) (by omega) (by decide) (by decide) (by decide) rfl rfl rfl (Nat.le_of_ble_eq_true rfl) (fun _ z => z.elim) (fun _ z => z.elim) (Or.inl fun _ z => z) (fun v9 n9 h9 q9 => ?_) (fun E n9 h9 q9 => ?_)
  · obtain ⟨rfl, ⟨g', rfl, hx9, hf9⟩, q⟩ := q9
    obtain ⟨hk, q⟩ := q.resolve_right (fun z => by obtain ⟨E', -, -, z⟩ := z; cases z)
    cases q
    refine o_i2l dL_requestedHours_7 ?_
    refine h_last (v := (o_I v).toInt) (Int64.ofInt_int32ToInt _).symm dL_requestedHours_8 (fun g1 e9 => ?_)
    refine o_goto (tgt := 15) dL_requestedHours_9 (by decide) ?_
    refine o_iconst dL_requestedHours_15 ?_
    refine o_ret1 dL_requestedHours_16 trivial ?_
    subst e9
    exact h_ok hk (Or.inl rfl) hx9 hf9
  · obtain ⟨rfl, ⟨g', rfl, hx9, hf9⟩, q⟩ := q9
    rcases q with ⟨-, q⟩ | ⟨E', hk, hE, q⟩
    · cases q
    cases q
    obtain ⟨m9, hm9⟩ : ∃ m9 : Nat, (k - 1).toNat = m9 := ⟨_, rfl⟩
    rw [hm9] at hE
    rcases m9 with _ | m9
    · cases hE
      refine h_onN (k := 3) (pre := []) (suf := []) (a := 0) (b := 9) (hpc := 12) (ct := 36) (i := 3) rfl (fun _ h9 => absurd h9 List.not_mem_nil) ⟨by decide, by decide⟩ (by decide) hl_36 (List.mem_of_getElem? (i := 3) rfl) (by decide) rfl dL_requestedHours_12 (List.forall_mem_cons.mpr ⟨⟨(show (0 : Nat) ≠ 3 by decide), fun _ => (show (1 : Nat) ≠ 2 by decide)⟩, (List.forall_mem_cons.mpr ⟨⟨(show (1 : Nat) ≠ 3 by decide), fun _ => (show (1 : Nat) ≠ 2 by decide)⟩, (List.forall_mem_cons.mpr ⟨⟨(show (2 : Nat) ≠ 3 by decide), fun _ => (show (1 : Nat) ≠ 2 by decide)⟩, (fun _ h9 => absurd h9 List.not_mem_nil)⟩)⟩)⟩) ?_
      refine o_iconst dL_requestedHours_13 ?_
      refine o_ret1 dL_requestedHours_14 trivial ?_
      exact h_no (by omega) hk hx9 hf9
    · cases hE
set_option maxRecDepth 100000 in
set_option maxHeartbeats 4000000 in
/-- the law's shipByFines -/
theorem ct_L_shipByFines {l : Launch} (hl : l.stackTraces = false) (d : Nat) (g M' : Nat → Nat → Int) (P' : List (Nat → Nat → Int)) (S' : Option (Nat → Nat → Int)) (T' : Nat → Nat → Int) (k : Int) (hk0 : 0 ≤ k) (v : Int) (i : Int) (hC : o_Ct l yX11_shipByFines wX11_shipByFines d o_no [.ref 0, .int (o_I i)] o_N (o_mem g) 1 6 (x_x ["java/util/NoSuchElementException"] k (.int (o_I v)) M' P' S' T' g)) : o_Ct l yL_shipByFines wL_shipByFines (d + 1) o_no [.ref 0, .int (o_I i), .ref 201] o_N (o_mem g) 1 6 (h_x k 201 ((o_I v).toInt) M' P' S' T' g) := by
  refine o_Ct.ofVH hl mL_shipByFines (by decide +kernel) rfl rfl (Nat.le_of_ble_eq_true rfl) ?_
  refine o_loc [(0, .ref 0), (1, .int (o_I i)), (2, .ref 201)] rfl ?_
  refine o_aload_n dL_shipByFines_0 rfl ?_
  refine o_iconst dL_shipByFines_1 ?_
  refine o_aload_n dL_shipByFines_2 rfl ?_
  refine o_iload_n dL_shipByFines_3 rfl ?_
  refine o_callV [.int (o_I i)] (rest := [.int (o_I 0), .ref 201]) hC dL_shipByFines_4 ml_L_96 yw_X11_shipByFines rfl (by decide) (by omega) (by decide) (by decide) (by decide) rfl rfl rfl (Nat.le_of_ble_eq_true rfl) (fun _ z => z.elim) (fun _ z => z.elim) (Or.inl fun _ z => z) (fun v9 n9 h9 q9 => ?_) (fun E n9 h9 q9 => ?_)
  · obtain ⟨rfl, ⟨g', rfl, hx9, hf9⟩, q⟩ := q9
    obtain ⟨hk, q⟩ := q.resolve_right (fun z => by obtain ⟨E', -, -, z⟩ := z; cases z)
    cases q
    refine o_i2l dL_shipByFines_7 ?_
    refine h_last (v := (o_I v).toInt) (Int64.ofInt_int32ToInt _).symm dL_shipByFines_8 (fun g1 e9 => ?_)
    refine o_goto (tgt := 15) dL_shipByFines_9 (by decide) ?_
    refine o_iconst dL_shipByFines_15 ?_
    refine o_ret1 dL_shipByFines_16 trivial ?_
    subst e9
    exact h_ok hk (Or.inl rfl) hx9 hf9
  · obtain ⟨rfl, ⟨g', rfl, hx9, hf9⟩, q⟩ := q9
    rcases q with ⟨-, q⟩ | ⟨E', hk, hE, q⟩
    · cases q
    cases q
    obtain ⟨m9, hm9⟩ : ∃ m9 : Nat, (k - 1).toNat = m9 := ⟨_, rfl⟩
    rw [hm9] at hE
    rcases m9 with _ | m9
    · cases hE
      refine h_onN (k := 3) (pre := []) (suf := []) (a := 0) (b := 9) (hpc := 12) (ct := 36) (i := 3) rfl (fun _ h9 => absurd h9 List.not_mem_nil) ⟨by decide, by decide⟩ (by decide) hl_36 (List.mem_of_getElem? (i := 3) rfl) (by decide) rfl dL_shipByFines_12 (List.forall_mem_cons.mpr ⟨⟨(show (0 : Nat) ≠ 3 by decide), fun _ => (show (1 : Nat) ≠ 2 by decide)⟩, (List.forall_mem_cons.mpr ⟨⟨(show (1 : Nat) ≠ 3 by decide), fun _ => (show (1 : Nat) ≠ 2 by decide)⟩, (List.forall_mem_cons.mpr ⟨⟨(show (2 : Nat) ≠ 3 by decide), fun _ => (show (1 : Nat) ≠ 2 by decide)⟩, (fun _ h9 => absurd h9 List.not_mem_nil)⟩)⟩)⟩) ?_
      refine o_iconst dL_shipByFines_13 ?_
      refine o_ret1 dL_shipByFines_14 trivial ?_
      exact h_no (by omega) hk hx9 hf9
    · cases hE
set_option maxRecDepth 100000 in
set_option maxHeartbeats 4000000 in
/-- the law's lampByEnd -/
theorem ct_L_lampByEnd {l : Launch} (hl : l.stackTraces = false) (d : Nat) (g M' : Nat → Nat → Int) (P' : List (Nat → Nat → Int)) (S' : Option (Nat → Nat → Int)) (T' : Nat → Nat → Int) (k : Int) (hk0 : 0 ≤ k) (v : Int) (i : Int) (hC : o_Ct l yX11_lampByEnd wX11_lampByEnd d o_no [.ref 0, .int (o_I i)] o_N (o_mem g) 1 6 (x_x ["java/util/NoSuchElementException"] k (.int (o_I v)) M' P' S' T' g)) : o_Ct l yL_lampByEnd wL_lampByEnd (d + 1) o_no [.ref 0, .int (o_I i), .ref 201] o_N (o_mem g) 1 6 (h_x k 201 ((o_I v).toInt) M' P' S' T' g) := by
  refine o_Ct.ofVH hl mL_lampByEnd (by decide +kernel) rfl rfl (Nat.le_of_ble_eq_true rfl) ?_
  refine o_loc [(0, .ref 0), (1, .int (o_I i)), (2, .ref 201)] rfl ?_
  refine o_aload_n dL_lampByEnd_0 rfl ?_
  refine o_iconst dL_lampByEnd_1 ?_
  refine o_aload_n dL_lampByEnd_2 rfl ?_
  refine o_iload_n dL_lampByEnd_3 rfl ?_
  refine o_callV [.int (o_I i)] (rest := [.int (o_I 0), .ref 201]) hC dL_lampByEnd_4 ml_L_99 yw_X11_lampByEnd rfl (by decide) (by omega) (by decide) (by decide) (by decide) rfl rfl rfl (Nat.le_of_ble_eq_true rfl) (fun _ z => z.elim) (fun _ z => z.elim) (Or.inl fun _ z => z) (fun v9 n9 h9 q9 => ?_) (fun E n9 h9 q9 => ?_)
  · obtain ⟨rfl, ⟨g', rfl, hx9, hf9⟩, q⟩ := q9
    obtain ⟨hk, q⟩ := q.resolve_right (fun z => by obtain ⟨E', -, -, z⟩ := z; cases z)
    cases q
    refine o_i2l dL_lampByEnd_7 ?_
    refine h_last (v := (o_I v).toInt) (Int64.ofInt_int32ToInt _).symm dL_lampByEnd_8 (fun g1 e9 => ?_)
    refine o_goto (tgt := 15) dL_lampByEnd_9 (by decide) ?_
    refine o_iconst dL_lampByEnd_15 ?_
    refine o_ret1 dL_lampByEnd_16 trivial ?_
    subst e9
    exact h_ok hk (Or.inl rfl) hx9 hf9
  · obtain ⟨rfl, ⟨g', rfl, hx9, hf9⟩, q⟩ := q9
    rcases q with ⟨-, q⟩ | ⟨E', hk, hE, q⟩
    · cases q
    cases q
    obtain ⟨m9, hm9⟩ : ∃ m9 : Nat, (k - 1).toNat = m9 := ⟨_, rfl⟩
    rw [hm9] at hE
    rcases m9 with _ | m9
    · cases hE
      refine h_onN (k := 3) (pre := []) (suf := []) (a := 0) (b := 9) (hpc := 12) (ct := 36) (i := 3) rfl (fun _ h9 => absurd h9 List.not_mem_nil) ⟨by decide, by decide⟩ (by decide) hl_36 (List.mem_of_getElem? (i := 3) rfl) (by decide) rfl dL_lampByEnd_12 (List.forall_mem_cons.mpr ⟨⟨(show (0 : Nat) ≠ 3 by decide), fun _ => (show (1 : Nat) ≠ 2 by decide)⟩, (List.forall_mem_cons.mpr ⟨⟨(show (1 : Nat) ≠ 3 by decide), fun _ => (show (1 : Nat) ≠ 2 by decide)⟩, (List.forall_mem_cons.mpr ⟨⟨(show (2 : Nat) ≠ 3 by decide), fun _ => (show (1 : Nat) ≠ 2 by decide)⟩, (fun _ h9 => absurd h9 List.not_mem_nil)⟩)⟩)⟩) ?_
      refine o_iconst dL_lampByEnd_13 ?_
      refine o_ret1 dL_lampByEnd_14 trivial ?_
      exact h_no (by omega) hk hx9 hf9
    · cases hE
set_option maxRecDepth 100000 in
set_option maxHeartbeats 4000000 in
/-- the law's meanCoins -/
theorem ct_L_meanCoins {l : Launch} (hl : l.stackTraces = false) (d : Nat) (g M' : Nat → Nat → Int) (P' : List (Nat → Nat → Int)) (S' : Option (Nat → Nat → Int)) (T' : Nat → Nat → Int) (k : Int) (hk0 : 0 ≤ k) (x : UInt64) (hC : o_Ct l yX11_meanCoins wX11_meanCoins d o_no [.ref 0] o_N (o_mem g) 1 6 (x_x ["java/lang/ArithmeticException"] k (.double x) M' P' S' T' g)) : o_Ct l yL_meanCoins wL_meanCoins (d + 1) o_no [.ref 0, .ref 202] o_N (o_mem g) 1 6 (h_x k 202 (x.toNat : Int) M' P' S' T' g) := by
  refine o_Ct.ofVH hl mL_meanCoins (by decide +kernel) rfl rfl (Nat.le_of_ble_eq_true rfl) ?_
  refine o_loc [(0, .ref 0), (1, .ref 202)] rfl ?_
  refine o_aload_n dL_meanCoins_0 rfl ?_
  refine o_iconst dL_meanCoins_1 ?_
  refine o_aload_n dL_meanCoins_2 rfl ?_
  refine o_callV [] (rest := [.int (o_I 0), .ref 202]) hC dL_meanCoins_3 ml_L_102 yw_X11_meanCoins rfl (by decide) (by omega) (by decide) (by decide) (by decide) rfl rfl rfl (Nat.le_of_ble_eq_true rfl) (fun _ z => z.elim) (fun _ z => z.elim) (Or.inl fun _ z => z) (fun v9 n9 h9 q9 => ?_) (fun E n9 h9 q9 => ?_)
  · obtain ⟨rfl, ⟨g', rfl, hx9, hf9⟩, q⟩ := q9
    obtain ⟨hk, q⟩ := q.resolve_right (fun z => by obtain ⟨E', -, -, z⟩ := z; cases z)
    cases q
    refine h_dast dL_meanCoins_6 (fun g1 e9 => ?_)
    refine o_goto (tgt := 13) dL_meanCoins_7 (by decide) ?_
    refine o_iconst dL_meanCoins_13 ?_
    refine o_ret1 dL_meanCoins_14 trivial ?_
    subst e9
    exact h_ok hk (Or.inr rfl) hx9 hf9
  · obtain ⟨rfl, ⟨g', rfl, hx9, hf9⟩, q⟩ := q9
    rcases q with ⟨-, q⟩ | ⟨E', hk, hE, q⟩
    · cases q
    cases q
    obtain ⟨m9, hm9⟩ : ∃ m9 : Nat, (k - 1).toNat = m9 := ⟨_, rfl⟩
    rw [hm9] at hE
    rcases m9 with _ | m9
    · cases hE
      refine h_onN (k := 2) (pre := []) (suf := []) (a := 0) (b := 7) (hpc := 10) (ct := 106) (i := 2) rfl (fun _ h9 => absurd h9 List.not_mem_nil) ⟨by decide, by decide⟩ (by decide) hl_106 (List.mem_of_getElem? (i := 5) rfl) (by decide) rfl dL_meanCoins_10 (List.forall_mem_cons.mpr ⟨⟨(show (0 : Nat) ≠ 2 by decide), fun _ => (show (1 : Nat) ≠ 2 by decide)⟩, (List.forall_mem_cons.mpr ⟨⟨(show (1 : Nat) ≠ 2 by decide), fun _ => (show (1 : Nat) ≠ 2 by decide)⟩, (fun _ h9 => absurd h9 List.not_mem_nil)⟩)⟩) ?_
      refine o_iconst dL_meanCoins_11 ?_
      refine o_ret1 dL_meanCoins_12 trivial ?_
      exact h_no (by omega) hk hx9 hf9
    · cases hE
set_option maxRecDepth 100000 in
set_option maxHeartbeats 4000000 in
/-- the law's leasedShare -/
theorem ct_L_leasedShare {l : Launch} (hl : l.stackTraces = false) (d : Nat) (g M' : Nat → Nat → Int) (P' : List (Nat → Nat → Int)) (S' : Option (Nat → Nat → Int)) (T' : Nat → Nat → Int) (k : Int) (hk0 : 0 ≤ k) (x : UInt32) (hne : k = 0 → vf_n64 (FP.f2d x)) (hC : o_Ct l yX11_leasedShare wX11_leasedShare d o_no [.ref 0] o_N (o_mem g) 1 6 (x_x ["java/lang/ArithmeticException"] k (.float x) M' P' S' T' g)) : o_Ct l yL_leasedShare wL_leasedShare (d + 1) o_no [.ref 0, .ref 202] o_N (o_mem g) 1 6 (h_x k 202 ((FP.f2d x).toNat : Int) M' P' S' T' g) := by
  refine o_Ct.ofVH hl mL_leasedShare (by decide +kernel) rfl rfl (Nat.le_of_ble_eq_true rfl) ?_
  refine o_loc [(0, .ref 0), (1, .ref 202)] rfl ?_
  refine o_aload_n dL_leasedShare_0 rfl ?_
  refine o_iconst dL_leasedShare_1 ?_
  refine o_aload_n dL_leasedShare_2 rfl ?_
  refine o_callV [] (rest := [.int (o_I 0), .ref 202]) hC dL_leasedShare_3 ml_L_108 yw_X11_leasedShare rfl (by decide) (by omega) (by decide) (by decide) (by decide) rfl rfl rfl (Nat.le_of_ble_eq_true rfl) (fun _ z => z.elim) (fun _ z => z.elim) (Or.inl fun _ z => z) (fun v9 n9 h9 q9 => ?_) (fun E n9 h9 q9 => ?_)
  · obtain ⟨rfl, ⟨g', rfl, hx9, hf9⟩, q⟩ := q9
    obtain ⟨hk, q⟩ := q.resolve_right (fun z => by obtain ⟨E', -, -, z⟩ := z; cases z)
    cases q
    refine o_f2d dL_leasedShare_6 (hne hk) ?_
    refine h_dast dL_leasedShare_7 (fun g1 e9 => ?_)
    refine o_goto (tgt := 14) dL_leasedShare_8 (by decide) ?_
    refine o_iconst dL_leasedShare_14 ?_
    refine o_ret1 dL_leasedShare_15 trivial ?_
    subst e9
    exact h_ok hk (Or.inr rfl) hx9 hf9
  · obtain ⟨rfl, ⟨g', rfl, hx9, hf9⟩, q⟩ := q9
    rcases q with ⟨-, q⟩ | ⟨E', hk, hE, q⟩
    · cases q
    cases q
    obtain ⟨m9, hm9⟩ : ∃ m9 : Nat, (k - 1).toNat = m9 := ⟨_, rfl⟩
    rw [hm9] at hE
    rcases m9 with _ | m9
    · cases hE
      refine h_onN (k := 2) (pre := []) (suf := []) (a := 0) (b := 8) (hpc := 11) (ct := 106) (i := 2) rfl (fun _ h9 => absurd h9 List.not_mem_nil) ⟨by decide, by decide⟩ (by decide) hl_106 (List.mem_of_getElem? (i := 5) rfl) (by decide) rfl dL_leasedShare_11 (List.forall_mem_cons.mpr ⟨⟨(show (0 : Nat) ≠ 2 by decide), fun _ => (show (1 : Nat) ≠ 2 by decide)⟩, (List.forall_mem_cons.mpr ⟨⟨(show (1 : Nat) ≠ 2 by decide), fun _ => (show (1 : Nat) ≠ 2 by decide)⟩, (fun _ h9 => absurd h9 List.not_mem_nil)⟩)⟩) ?_
      refine o_iconst dL_leasedShare_12 ?_
      refine o_ret1 dL_leasedShare_13 trivial ?_
      exact h_no (by omega) hk hx9 hf9
    · cases hE
set_option maxRecDepth 100000 in
set_option maxHeartbeats 4000000 in
/-- the law's feed -/
theorem ct_L_feed {l : Launch} (hl : l.stackTraces = false) (d : Nat) (g M' : Nat → Nat → Int) (P' : List (Nat → Nat → Int)) (S' : Option (Nat → Nat → Int)) (T' : Nat → Nat → Int) (k : Int) (hk0 : 0 ≤ k) (v : Int) (i : Int) (hC : o_Ct l yX11_feed wX11_feed d o_no [.ref 0, .int (o_I i)] o_N (o_mem g) 1 6 (x_x ["java/lang/IllegalStateException"] k (.int (o_I v)) M' P' S' T' g)) : o_Ct l yL_feed wL_feed (d + 1) o_no [.ref 0, .int (o_I i), .ref 201] o_N (o_mem g) 1 6 (h_x k 201 ((o_I v).toInt) M' P' S' T' g) := by
  refine o_Ct.ofVH hl mL_feed (by decide +kernel) rfl rfl (Nat.le_of_ble_eq_true rfl) ?_
  refine o_loc [(0, .ref 0), (1, .int (o_I i)), (2, .ref 201)] rfl ?_
  refine o_aload_n dL_feed_0 rfl ?_
  refine o_iconst dL_feed_1 ?_
  refine o_aload_n dL_feed_2 rfl ?_
  refine o_iload_n dL_feed_3 rfl ?_
  refine o_callV [.int (o_I i)] (rest := [.int (o_I 0), .ref 201]) hC dL_feed_4 ml_L_112 yw_X11_feed rfl (by decide) (by omega) (by decide) (by decide) (by decide) rfl rfl rfl (Nat.le_of_ble_eq_true rfl) (fun _ z => z.elim) (fun _ z => z.elim) (Or.inl fun _ z => z) (fun v9 n9 h9 q9 => ?_) (fun E n9 h9 q9 => ?_)
  · obtain ⟨rfl, ⟨g', rfl, hx9, hf9⟩, q⟩ := q9
    obtain ⟨hk, q⟩ := q.resolve_right (fun z => by obtain ⟨E', -, -, z⟩ := z; cases z)
    cases q
    refine o_i2l dL_feed_7 ?_
    refine h_last (v := (o_I v).toInt) (Int64.ofInt_int32ToInt _).symm dL_feed_8 (fun g1 e9 => ?_)
    refine o_goto (tgt := 15) dL_feed_9 (by decide) ?_
    refine o_iconst dL_feed_15 ?_
    refine o_ret1 dL_feed_16 trivial ?_
    subst e9
    exact h_ok hk (Or.inl rfl) hx9 hf9
  · obtain ⟨rfl, ⟨g', rfl, hx9, hf9⟩, q⟩ := q9
    rcases q with ⟨-, q⟩ | ⟨E', hk, hE, q⟩
    · cases q
    cases q
    obtain ⟨m9, hm9⟩ : ∃ m9 : Nat, (k - 1).toNat = m9 := ⟨_, rfl⟩
    rw [hm9] at hE
    rcases m9 with _ | m9
    · cases hE
      refine h_onN (k := 3) (pre := []) (suf := []) (a := 0) (b := 9) (hpc := 12) (ct := 13) (i := 3) rfl (fun _ h9 => absurd h9 List.not_mem_nil) ⟨by decide, by decide⟩ (by decide) hl_13 (List.mem_of_getElem? (i := 2) rfl) (by decide) rfl dL_feed_12 (List.forall_mem_cons.mpr ⟨⟨(show (0 : Nat) ≠ 3 by decide), fun _ => (show (1 : Nat) ≠ 2 by decide)⟩, (List.forall_mem_cons.mpr ⟨⟨(show (1 : Nat) ≠ 3 by decide), fun _ => (show (1 : Nat) ≠ 2 by decide)⟩, (List.forall_mem_cons.mpr ⟨⟨(show (2 : Nat) ≠ 3 by decide), fun _ => (show (1 : Nat) ≠ 2 by decide)⟩, (fun _ h9 => absurd h9 List.not_mem_nil)⟩)⟩)⟩) ?_
      refine o_iconst dL_feed_13 ?_
      refine o_ret1 dL_feed_14 trivial ?_
      exact h_no (by omega) hk hx9 hf9
    · cases hE
set_option maxRecDepth 100000 in
set_option maxHeartbeats 4000000 in
/-- the law's runCommands -/
theorem ct_L_runCommands {l : Launch} (hl : l.stackTraces = false) (d : Nat) (g M' : Nat → Nat → Int) (P' : List (Nat → Nat → Int)) (S' : Option (Nat → Nat → Int)) (T' : Nat → Nat → Int) (k : Int) (hk0 : 0 ≤ k) (v : Int) (hC : o_Ct l yX11_runCommands wX11_runCommands d o_no [.ref 0] o_N (o_mem g) 1 6 (x_x ["java/lang/IllegalArgumentException", "java/lang/UnsupportedOperationException"] k (.int (o_I v)) M' P' S' T' g)) : o_Ct l yL_runCommands wL_runCommands (d + 1) o_no [.ref 0, .ref 201] o_N (o_mem g) 1 6 (h_x k 201 ((o_I v).toInt) M' P' S' T' g) := by
  refine o_Ct.ofVH hl mL_runCommands (by decide +kernel) rfl rfl (Nat.le_of_ble_eq_true rfl) ?_
  refine o_loc [(0, .ref 0), (1, .ref 201)] rfl ?_
  refine o_aload_n dL_runCommands_0 rfl ?_
  refine o_iconst dL_runCommands_1 ?_
  refine o_aload_n dL_runCommands_2 rfl ?_
  refine o_callV [] (rest := [.int (o_I 0), .ref 201]) hC dL_runCommands_3 ml_L_116 yw_X11_runCommands rfl (by decide) (by omega) (by decide) (by decide) (by decide) rfl rfl rfl (Nat.le_of_ble_eq_true rfl) (fun _ z => z.elim) (fun _ z => z.elim) (Or.inl fun _ z => z) (fun v9 n9 h9 q9 => ?_) (fun E n9 h9 q9 => ?_)
  · obtain ⟨rfl, ⟨g', rfl, hx9, hf9⟩, q⟩ := q9
    obtain ⟨hk, q⟩ := q.resolve_right (fun z => by obtain ⟨E', -, -, z⟩ := z; cases z)
    cases q
    refine o_i2l dL_runCommands_6 ?_
    refine h_last (v := (o_I v).toInt) (Int64.ofInt_int32ToInt _).symm dL_runCommands_7 (fun g1 e9 => ?_)
    refine o_goto (tgt := 17) dL_runCommands_8 (by decide) ?_
    refine o_iconst dL_runCommands_17 ?_
    refine o_ret1 dL_runCommands_18 trivial ?_
    subst e9
    exact h_ok hk (Or.inl rfl) hx9 hf9
  · obtain ⟨rfl, ⟨g', rfl, hx9, hf9⟩, q⟩ := q9
    rcases q with ⟨-, q⟩ | ⟨E', hk, hE, q⟩
    · cases q
    cases q
    obtain ⟨m9, hm9⟩ : ∃ m9 : Nat, (k - 1).toNat = m9 := ⟨_, rfl⟩
    rw [hm9] at hE
    rcases m9 with _ | _ | m9
    · cases hE
      refine h_onN (k := 2) (pre := []) (suf := [(0, 8, 14, 30)]) (a := 0) (b := 8) (hpc := 11) (ct := 19) (i := 2) rfl (fun _ h9 => absurd h9 List.not_mem_nil) ⟨by decide, by decide⟩ (by decide) hl_19 (List.mem_of_getElem? (i := 1) rfl) (by decide) rfl dL_runCommands_11 (List.forall_mem_cons.mpr ⟨⟨(show (0 : Nat) ≠ 2 by decide), fun _ => (show (1 : Nat) ≠ 2 by decide)⟩, (List.forall_mem_cons.mpr ⟨⟨(show (1 : Nat) ≠ 2 by decide), fun _ => (show (1 : Nat) ≠ 2 by decide)⟩, (fun _ h9 => absurd h9 List.not_mem_nil)⟩)⟩) ?_
      refine o_iconst dL_runCommands_12 ?_
      refine o_ret1 dL_runCommands_13 trivial ?_
      exact h_no (by omega) hk hx9 hf9
    · cases hE
      refine h_onN (k := 2) (pre := [(0, 8, 11, 19)]) (suf := []) (a := 0) (b := 8) (hpc := 14) (ct := 30) (i := 2) rfl (List.forall_mem_cons.mpr ⟨⟨(show (19 : Nat) ≠ 0 by decide), _, hl_19, List.mem_of_getElem? (i := 4) rfl⟩, (fun _ h9 => absurd h9 List.not_mem_nil)⟩) ⟨by decide, by decide⟩ (by decide) hl_30 (List.mem_of_getElem? (i := 4) rfl) (by decide) rfl dL_runCommands_14 (List.forall_mem_cons.mpr ⟨⟨(show (0 : Nat) ≠ 2 by decide), fun _ => (show (1 : Nat) ≠ 2 by decide)⟩, (List.forall_mem_cons.mpr ⟨⟨(show (1 : Nat) ≠ 2 by decide), fun _ => (show (1 : Nat) ≠ 2 by decide)⟩, (fun _ h9 => absurd h9 List.not_mem_nil)⟩)⟩) ?_
      refine o_iconst dL_runCommands_15 ?_
      refine o_ret1 dL_runCommands_16 trivial ?_
      exact h_no (by omega) hk hx9 hf9
    · cases hE
set_option maxRecDepth 100000 in
set_option maxHeartbeats 4000000 in
/-- the law's errorPosition -/
theorem ct_L_errorPosition {l : Launch} (hl : l.stackTraces = false) (d : Nat) (g M' : Nat → Nat → Int) (P' : List (Nat → Nat → Int)) (S' : Option (Nat → Nat → Int)) (T' : Nat → Nat → Int) (k : Int) (hk0 : 0 ≤ k) (v : Int) (hC : o_Ct l yX11_errorPosition wX11_errorPosition d o_no [.ref 0] o_N (o_mem g) 1 6 (x_x ["java/util/NoSuchElementException"] k (.int (o_I v)) M' P' S' T' g)) : o_Ct l yL_errorPosition wL_errorPosition (d + 1) o_no [.ref 0, .ref 201] o_N (o_mem g) 1 6 (h_x k 201 ((o_I v).toInt) M' P' S' T' g) := by
  refine o_Ct.ofVH hl mL_errorPosition (by decide +kernel) rfl rfl (Nat.le_of_ble_eq_true rfl) ?_
  refine o_loc [(0, .ref 0), (1, .ref 201)] rfl ?_
  refine o_aload_n dL_errorPosition_0 rfl ?_
  refine o_iconst dL_errorPosition_1 ?_
  refine o_aload_n dL_errorPosition_2 rfl ?_
  refine o_callV [] (rest := [.int (o_I 0), .ref 201]) hC dL_errorPosition_3 ml_L_119 yw_X11_errorPosition rfl (by decide) (by omega) (by decide) (by decide) (by decide) rfl rfl rfl (Nat.le_of_ble_eq_true rfl) (fun _ z => z.elim) (fun _ z => z.elim) (Or.inl fun _ z => z) (fun v9 n9 h9 q9 => ?_) (fun E n9 h9 q9 => ?_)
  · obtain ⟨rfl, ⟨g', rfl, hx9, hf9⟩, q⟩ := q9
    obtain ⟨hk, q⟩ := q.resolve_right (fun z => by obtain ⟨E', -, -, z⟩ := z; cases z)
    cases q
    refine o_i2l dL_errorPosition_6 ?_
    refine h_last (v := (o_I v).toInt) (Int64.ofInt_int32ToInt _).symm dL_errorPosition_7 (fun g1 e9 => ?_)
    refine o_goto (tgt := 14) dL_errorPosition_8 (by decide) ?_
    refine o_iconst dL_errorPosition_14 ?_
    refine o_ret1 dL_errorPosition_15 trivial ?_
    subst e9
    exact h_ok hk (Or.inl rfl) hx9 hf9
  · obtain ⟨rfl, ⟨g', rfl, hx9, hf9⟩, q⟩ := q9
    rcases q with ⟨-, q⟩ | ⟨E', hk, hE, q⟩
    · cases q
    cases q
    obtain ⟨m9, hm9⟩ : ∃ m9 : Nat, (k - 1).toNat = m9 := ⟨_, rfl⟩
    rw [hm9] at hE
    rcases m9 with _ | m9
    · cases hE
      refine h_onN (k := 2) (pre := []) (suf := []) (a := 0) (b := 8) (hpc := 11) (ct := 36) (i := 2) rfl (fun _ h9 => absurd h9 List.not_mem_nil) ⟨by decide, by decide⟩ (by decide) hl_36 (List.mem_of_getElem? (i := 3) rfl) (by decide) rfl dL_errorPosition_11 (List.forall_mem_cons.mpr ⟨⟨(show (0 : Nat) ≠ 2 by decide), fun _ => (show (1 : Nat) ≠ 2 by decide)⟩, (List.forall_mem_cons.mpr ⟨⟨(show (1 : Nat) ≠ 2 by decide), fun _ => (show (1 : Nat) ≠ 2 by decide)⟩, (fun _ h9 => absurd h9 List.not_mem_nil)⟩)⟩) ?_
      refine o_iconst dL_errorPosition_12 ?_
      refine o_ret1 dL_errorPosition_13 trivial ?_
      exact h_no (by omega) hk hx9 hf9
    · cases hE
set_option maxRecDepth 100000 in
set_option maxHeartbeats 4000000 in
/-- the law's failedCommand -/
theorem ct_L_failedCommand {l : Launch} (hl : l.stackTraces = false) (d : Nat) (g M' : Nat → Nat → Int) (P' : List (Nat → Nat → Int)) (S' : Option (Nat → Nat → Int)) (T' : Nat → Nat → Int) (k : Int) (hk0 : 0 ≤ k) (v : Int) (hC : o_Ct l yX11_failedCommand wX11_failedCommand d o_no [.ref 0] o_N (o_mem g) 1 6 (x_x ["java/util/NoSuchElementException"] k (.int (o_I v)) M' P' S' T' g)) : o_Ct l yL_failedCommand wL_failedCommand (d + 1) o_no [.ref 0, .ref 201] o_N (o_mem g) 1 6 (h_x k 201 ((o_I v).toInt) M' P' S' T' g) := by
  refine o_Ct.ofVH hl mL_failedCommand (by decide +kernel) rfl rfl (Nat.le_of_ble_eq_true rfl) ?_
  refine o_loc [(0, .ref 0), (1, .ref 201)] rfl ?_
  refine o_aload_n dL_failedCommand_0 rfl ?_
  refine o_iconst dL_failedCommand_1 ?_
  refine o_aload_n dL_failedCommand_2 rfl ?_
  refine o_callV [] (rest := [.int (o_I 0), .ref 201]) hC dL_failedCommand_3 ml_L_122 yw_X11_failedCommand rfl (by decide) (by omega) (by decide) (by decide) (by decide) rfl rfl rfl (Nat.le_of_ble_eq_true rfl) (fun _ z => z.elim) (fun _ z => z.elim) (Or.inl fun _ z => z) (fun v9 n9 h9 q9 => ?_) (fun E n9 h9 q9 => ?_)
  · obtain ⟨rfl, ⟨g', rfl, hx9, hf9⟩, q⟩ := q9
    obtain ⟨hk, q⟩ := q.resolve_right (fun z => by obtain ⟨E', -, -, z⟩ := z; cases z)
    cases q
    refine o_i2l dL_failedCommand_6 ?_
    refine h_last (v := (o_I v).toInt) (Int64.ofInt_int32ToInt _).symm dL_failedCommand_7 (fun g1 e9 => ?_)
    refine o_goto (tgt := 14) dL_failedCommand_8 (by decide) ?_
    refine o_iconst dL_failedCommand_14 ?_
    refine o_ret1 dL_failedCommand_15 trivial ?_
    subst e9
    exact h_ok hk (Or.inl rfl) hx9 hf9
  · obtain ⟨rfl, ⟨g', rfl, hx9, hf9⟩, q⟩ := q9
    rcases q with ⟨-, q⟩ | ⟨E', hk, hE, q⟩
    · cases q
    cases q
    obtain ⟨m9, hm9⟩ : ∃ m9 : Nat, (k - 1).toNat = m9 := ⟨_, rfl⟩
    rw [hm9] at hE
    rcases m9 with _ | m9
    · cases hE
      refine h_onN (k := 2) (pre := []) (suf := []) (a := 0) (b := 8) (hpc := 11) (ct := 36) (i := 2) rfl (fun _ h9 => absurd h9 List.not_mem_nil) ⟨by decide, by decide⟩ (by decide) hl_36 (List.mem_of_getElem? (i := 3) rfl) (by decide) rfl dL_failedCommand_11 (List.forall_mem_cons.mpr ⟨⟨(show (0 : Nat) ≠ 2 by decide), fun _ => (show (1 : Nat) ≠ 2 by decide)⟩, (List.forall_mem_cons.mpr ⟨⟨(show (1 : Nat) ≠ 2 by decide), fun _ => (show (1 : Nat) ≠ 2 by decide)⟩, (fun _ h9 => absurd h9 List.not_mem_nil)⟩)⟩) ?_
      refine o_iconst dL_failedCommand_12 ?_
      refine o_ret1 dL_failedCommand_13 trivial ?_
      exact h_no (by omega) hk hx9 hf9
    · cases hE
set_option maxRecDepth 100000 in
set_option maxHeartbeats 4000000 in
/-- the law's failureReason -/
theorem ct_L_failureReason {l : Launch} (hl : l.stackTraces = false) (d : Nat) (g M' : Nat → Nat → Int) (P' : List (Nat → Nat → Int)) (S' : Option (Nat → Nat → Int)) (T' : Nat → Nat → Int) (k : Int) (hk0 : 0 ≤ k) (v : Int) (hC : o_Ct l yX11_failureReason wX11_failureReason d o_no [.ref 0] o_N (o_mem g) 1 6 (x_x ["java/util/NoSuchElementException"] k (.int (o_I v)) M' P' S' T' g)) : o_Ct l yL_failureReason wL_failureReason (d + 1) o_no [.ref 0, .ref 201] o_N (o_mem g) 1 6 (h_x k 201 ((o_I v).toInt) M' P' S' T' g) := by
  refine o_Ct.ofVH hl mL_failureReason (by decide +kernel) rfl rfl (Nat.le_of_ble_eq_true rfl) ?_
  refine o_loc [(0, .ref 0), (1, .ref 201)] rfl ?_
  refine o_aload_n dL_failureReason_0 rfl ?_
  refine o_iconst dL_failureReason_1 ?_
  refine o_aload_n dL_failureReason_2 rfl ?_
  refine o_callV [] (rest := [.int (o_I 0), .ref 201]) hC dL_failureReason_3 ml_L_125 yw_X11_failureReason rfl (by decide) (by omega) (by decide) (by decide) (by decide) rfl rfl rfl (Nat.le_of_ble_eq_true rfl) (fun _ z => z.elim) (fun _ z => z.elim) (Or.inl fun _ z => z) (fun v9 n9 h9 q9 => ?_) (fun E n9 h9 q9 => ?_)
  · obtain ⟨rfl, ⟨g', rfl, hx9, hf9⟩, q⟩ := q9
    obtain ⟨hk, q⟩ := q.resolve_right (fun z => by obtain ⟨E', -, -, z⟩ := z; cases z)
    cases q
    refine o_i2l dL_failureReason_6 ?_
    refine h_last (v := (o_I v).toInt) (Int64.ofInt_int32ToInt _).symm dL_failureReason_7 (fun g1 e9 => ?_)
    refine o_goto (tgt := 14) dL_failureReason_8 (by decide) ?_
    refine o_iconst dL_failureReason_14 ?_
    refine o_ret1 dL_failureReason_15 trivial ?_
    subst e9
    exact h_ok hk (Or.inl rfl) hx9 hf9
  · obtain ⟨rfl, ⟨g', rfl, hx9, hf9⟩, q⟩ := q9
    rcases q with ⟨-, q⟩ | ⟨E', hk, hE, q⟩
    · cases q
    cases q
    obtain ⟨m9, hm9⟩ : ∃ m9 : Nat, (k - 1).toNat = m9 := ⟨_, rfl⟩
    rw [hm9] at hE
    rcases m9 with _ | m9
    · cases hE
      refine h_onN (k := 2) (pre := []) (suf := []) (a := 0) (b := 8) (hpc := 11) (ct := 36) (i := 2) rfl (fun _ h9 => absurd h9 List.not_mem_nil) ⟨by decide, by decide⟩ (by decide) hl_36 (List.mem_of_getElem? (i := 3) rfl) (by decide) rfl dL_failureReason_11 (List.forall_mem_cons.mpr ⟨⟨(show (0 : Nat) ≠ 2 by decide), fun _ => (show (1 : Nat) ≠ 2 by decide)⟩, (List.forall_mem_cons.mpr ⟨⟨(show (1 : Nat) ≠ 2 by decide), fun _ => (show (1 : Nat) ≠ 2 by decide)⟩, (fun _ h9 => absurd h9 List.not_mem_nil)⟩)⟩) ?_
      refine o_iconst dL_failureReason_12 ?_
      refine o_ret1 dL_failureReason_13 trivial ?_
      exact h_no (by omega) hk hx9 hf9
    · cases hE
set_option maxRecDepth 100000 in
set_option maxHeartbeats 4000000 in
/-- the law's outputChar -/
theorem ct_L_outputChar {l : Launch} (hl : l.stackTraces = false) (d : Nat) (g M' : Nat → Nat → Int) (P' : List (Nat → Nat → Int)) (S' : Option (Nat → Nat → Int)) (T' : Nat → Nat → Int) (k : Int) (hk0 : 0 ≤ k) (v : Int) (i : Int) (hC : o_Ct l yX11_outputChar wX11_outputChar d o_no [.ref 0, .int (o_I i)] o_N (o_mem g) 1 6 (x_x ["java/lang/IndexOutOfBoundsException"] k (.int (o_I v)) M' P' S' T' g)) : o_Ct l yL_outputChar wL_outputChar (d + 1) o_no [.ref 0, .int (o_I i), .ref 201] o_N (o_mem g) 1 6 (h_x k 201 ((o_I v).toInt) M' P' S' T' g) := by
  refine o_Ct.ofVH hl mL_outputChar (by decide +kernel) rfl rfl (Nat.le_of_ble_eq_true rfl) ?_
  refine o_loc [(0, .ref 0), (1, .int (o_I i)), (2, .ref 201)] rfl ?_
  refine o_aload_n dL_outputChar_0 rfl ?_
  refine o_iconst dL_outputChar_1 ?_
  refine o_aload_n dL_outputChar_2 rfl ?_
  refine o_iload_n dL_outputChar_3 rfl ?_
  refine o_callV [.int (o_I i)] (rest := [.int (o_I 0), .ref 201]) hC dL_outputChar_4 ml_L_129 yw_X11_outputChar rfl (by decide) (by omega) (by decide) (by decide) (by decide) rfl rfl rfl (Nat.le_of_ble_eq_true rfl) (fun _ z => z.elim) (fun _ z => z.elim) (Or.inl fun _ z => z) (fun v9 n9 h9 q9 => ?_) (fun E n9 h9 q9 => ?_)
  · obtain ⟨rfl, ⟨g', rfl, hx9, hf9⟩, q⟩ := q9
    obtain ⟨hk, q⟩ := q.resolve_right (fun z => by obtain ⟨E', -, -, z⟩ := z; cases z)
    cases q
    refine o_i2l dL_outputChar_7 ?_
    refine h_last (v := (o_I v).toInt) (Int64.ofInt_int32ToInt _).symm dL_outputChar_8 (fun g1 e9 => ?_)
    refine o_goto (tgt := 15) dL_outputChar_9 (by decide) ?_
    refine o_iconst dL_outputChar_15 ?_
    refine o_ret1 dL_outputChar_16 trivial ?_
    subst e9
    exact h_ok hk (Or.inl rfl) hx9 hf9
  · obtain ⟨rfl, ⟨g', rfl, hx9, hf9⟩, q⟩ := q9
    rcases q with ⟨-, q⟩ | ⟨E', hk, hE, q⟩
    · cases q
    cases q
    obtain ⟨m9, hm9⟩ : ∃ m9 : Nat, (k - 1).toNat = m9 := ⟨_, rfl⟩
    rw [hm9] at hE
    rcases m9 with _ | m9
    · cases hE
      refine h_onN (k := 3) (pre := []) (suf := []) (a := 0) (b := 9) (hpc := 12) (ct := 28) (i := 3) rfl (fun _ h9 => absurd h9 List.not_mem_nil) ⟨by decide, by decide⟩ (by decide) hl_28 (List.mem_of_getElem? (i := 0) rfl) (by decide) rfl dL_outputChar_12 (List.forall_mem_cons.mpr ⟨⟨(show (0 : Nat) ≠ 3 by decide), fun _ => (show (1 : Nat) ≠ 2 by decide)⟩, (List.forall_mem_cons.mpr ⟨⟨(show (1 : Nat) ≠ 3 by decide), fun _ => (show (1 : Nat) ≠ 2 by decide)⟩, (List.forall_mem_cons.mpr ⟨⟨(show (2 : Nat) ≠ 3 by decide), fun _ => (show (1 : Nat) ≠ 2 by decide)⟩, (fun _ h9 => absurd h9 List.not_mem_nil)⟩)⟩)⟩) ?_
      refine o_iconst dL_outputChar_13 ?_
      refine o_ret1 dL_outputChar_14 trivial ?_
      exact h_no (by omega) hk hx9 hf9
    · cases hE
set_option maxRecDepth 100000 in
set_option maxHeartbeats 4000000 in
/-- the law's undo -/
theorem ct_L_undo {l : Launch} (hl : l.stackTraces = false) (d : Nat) (g M' : Nat → Nat → Int) (P' : List (Nat → Nat → Int)) (S' : Option (Nat → Nat → Int)) (T' : Nat → Nat → Int) (k : Int) (hk0 : 0 ≤ k) (v : Int) (hC : o_Ct l yX11_undo wX11_undo d o_no [.ref 0] o_N (o_mem g) 1 6 (x_x ["java/lang/IllegalStateException"] k (.int (o_I v)) M' P' S' T' g)) : o_Ct l yL_undo wL_undo (d + 1) o_no [.ref 0, .ref 201] o_N (o_mem g) 1 6 (h_x k 201 ((o_I v).toInt) M' P' S' T' g) := by
  refine o_Ct.ofVH hl mL_undo (by decide +kernel) rfl rfl (Nat.le_of_ble_eq_true rfl) ?_
  refine o_loc [(0, .ref 0), (1, .ref 201)] rfl ?_
  refine o_aload_n dL_undo_0 rfl ?_
  refine o_iconst dL_undo_1 ?_
  refine o_aload_n dL_undo_2 rfl ?_
  refine o_callV [] (rest := [.int (o_I 0), .ref 201]) hC dL_undo_3 ml_L_133 yw_X11_undo rfl (by decide) (by omega) (by decide) (by decide) (by decide) rfl rfl rfl (Nat.le_of_ble_eq_true rfl) (fun _ z => z.elim) (fun _ z => z.elim) (Or.inl fun _ z => z) (fun v9 n9 h9 q9 => ?_) (fun E n9 h9 q9 => ?_)
  · obtain ⟨rfl, ⟨g', rfl, hx9, hf9⟩, q⟩ := q9
    obtain ⟨hk, q⟩ := q.resolve_right (fun z => by obtain ⟨E', -, -, z⟩ := z; cases z)
    cases q
    refine o_i2l dL_undo_6 ?_
    refine h_last (v := (o_I v).toInt) (Int64.ofInt_int32ToInt _).symm dL_undo_7 (fun g1 e9 => ?_)
    refine o_goto (tgt := 14) dL_undo_8 (by decide) ?_
    refine o_iconst dL_undo_14 ?_
    refine o_ret1 dL_undo_15 trivial ?_
    subst e9
    exact h_ok hk (Or.inl rfl) hx9 hf9
  · obtain ⟨rfl, ⟨g', rfl, hx9, hf9⟩, q⟩ := q9
    rcases q with ⟨-, q⟩ | ⟨E', hk, hE, q⟩
    · cases q
    cases q
    obtain ⟨m9, hm9⟩ : ∃ m9 : Nat, (k - 1).toNat = m9 := ⟨_, rfl⟩
    rw [hm9] at hE
    rcases m9 with _ | m9
    · cases hE
      refine h_onN (k := 2) (pre := []) (suf := []) (a := 0) (b := 8) (hpc := 11) (ct := 13) (i := 2) rfl (fun _ h9 => absurd h9 List.not_mem_nil) ⟨by decide, by decide⟩ (by decide) hl_13 (List.mem_of_getElem? (i := 2) rfl) (by decide) rfl dL_undo_11 (List.forall_mem_cons.mpr ⟨⟨(show (0 : Nat) ≠ 2 by decide), fun _ => (show (1 : Nat) ≠ 2 by decide)⟩, (List.forall_mem_cons.mpr ⟨⟨(show (1 : Nat) ≠ 2 by decide), fun _ => (show (1 : Nat) ≠ 2 by decide)⟩, (fun _ h9 => absurd h9 List.not_mem_nil)⟩)⟩) ?_
      refine o_iconst dL_undo_12 ?_
      refine o_ret1 dL_undo_13 trivial ?_
      exact h_no (by omega) hk hx9 hf9
    · cases hE
set_option maxRecDepth 100000 in
set_option maxHeartbeats 4000000 in
/-- the law's restore -/
theorem ct_L_restore {l : Launch} (hl : l.stackTraces = false) (d : Nat) (g M' : Nat → Nat → Int) (P' : List (Nat → Nat → Int)) (S' : Option (Nat → Nat → Int)) (T' : Nat → Nat → Int) (k : Int) (hk0 : 0 ≤ k) (v : Int) (hC : o_Ct l yX11_restore wX11_restore d o_no [.ref 0] o_N (o_mem g) 1 6 (x_x ["java/lang/IllegalStateException"] k (.int (o_I v)) M' P' S' T' g)) : o_Ct l yL_restore wL_restore (d + 1) o_no [.ref 0, .ref 201] o_N (o_mem g) 1 6 (h_x k 201 ((o_I v).toInt) M' P' S' T' g) := by
  refine o_Ct.ofVH hl mL_restore (by decide +kernel) rfl rfl (Nat.le_of_ble_eq_true rfl) ?_
  refine o_loc [(0, .ref 0), (1, .ref 201)] rfl ?_
  refine o_aload_n dL_restore_0 rfl ?_
  refine o_iconst dL_restore_1 ?_
  refine o_aload_n dL_restore_2 rfl ?_
  refine o_callV [] (rest := [.int (o_I 0), .ref 201]) hC dL_restore_3 ml_L_136 yw_X11_restore rfl (by decide) (by omega) (by decide) (by decide) (by decide) rfl rfl rfl (Nat.le_of_ble_eq_true rfl) (fun _ z => z.elim) (fun _ z => z.elim) (Or.inl fun _ z => z) (fun v9 n9 h9 q9 => ?_) (fun E n9 h9 q9 => ?_)
  · obtain ⟨rfl, ⟨g', rfl, hx9, hf9⟩, q⟩ := q9
    obtain ⟨hk, q⟩ := q.resolve_right (fun z => by obtain ⟨E', -, -, z⟩ := z; cases z)
    cases q
    refine o_i2l dL_restore_6 ?_
    refine h_last (v := (o_I v).toInt) (Int64.ofInt_int32ToInt _).symm dL_restore_7 (fun g1 e9 => ?_)
    refine o_goto (tgt := 14) dL_restore_8 (by decide) ?_
    refine o_iconst dL_restore_14 ?_
    refine o_ret1 dL_restore_15 trivial ?_
    subst e9
    exact h_ok hk (Or.inl rfl) hx9 hf9
  · obtain ⟨rfl, ⟨g', rfl, hx9, hf9⟩, q⟩ := q9
    rcases q with ⟨-, q⟩ | ⟨E', hk, hE, q⟩
    · cases q
    cases q
    obtain ⟨m9, hm9⟩ : ∃ m9 : Nat, (k - 1).toNat = m9 := ⟨_, rfl⟩
    rw [hm9] at hE
    rcases m9 with _ | m9
    · cases hE
      refine h_onN (k := 2) (pre := []) (suf := []) (a := 0) (b := 8) (hpc := 11) (ct := 13) (i := 2) rfl (fun _ h9 => absurd h9 List.not_mem_nil) ⟨by decide, by decide⟩ (by decide) hl_13 (List.mem_of_getElem? (i := 2) rfl) (by decide) rfl dL_restore_11 (List.forall_mem_cons.mpr ⟨⟨(show (0 : Nat) ≠ 2 by decide), fun _ => (show (1 : Nat) ≠ 2 by decide)⟩, (List.forall_mem_cons.mpr ⟨⟨(show (1 : Nat) ≠ 2 by decide), fun _ => (show (1 : Nat) ≠ 2 by decide)⟩, (fun _ h9 => absurd h9 List.not_mem_nil)⟩)⟩) ?_
      refine o_iconst dL_restore_12 ?_
      refine o_ret1 dL_restore_13 trivial ?_
      exact h_no (by omega) hk hx9 hf9
    · cases hE

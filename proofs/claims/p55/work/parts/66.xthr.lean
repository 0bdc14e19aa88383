/-! the class's office: throws and questions -/
def x_m4 (g T : Nat → Nat → Int) : Prop := g 163 2 = T 0 0 ∧ (∀ j : Nat, (j : Int) < T 0 0 → g 164 j = T 1 j) ∧ (∃ L, o_sb g L ∧ T 0 1 = L.length ∧ ∀ j, j < L.length → T 2 j = L.getD j 0) ∧ g 0 9 = T 0 2 ∧ g 0 10 = T 0 3 ∧ (0 ≤ T 0 3 → g 0 11 = T 0 4)
def x_m3 (g : Nat → Nat → Int) (S : Option (Nat → Nat → Int)) : Prop := g 0 3 = o_b (S.isSome = true) ∧ ∀ M', S = some M' → o_stb g 29 M'
def o_xd (g M : Nat → Nat → Int) (P : List (Nat → Nat → Int)) (S : Option (Nat → Nat → Int)) (T : Nat → Nat → Int) : Prop := o_st g M ∧ o_hs g P ∧ x_m3 g S ∧ x_m4 g T
def x_f9 : Nat → Prop := fun a => a ≤ 191
/-- the end of a call of the class: an answer or an exception, all its numbers -/
def x_x (Es : List String) (k : Int) (v : Value) (M' : Nat → Nat → Int) (P' : List (Nat → Nat → Int)) (S' : Option (Nat → Nat → Int)) (T' g : Nat → Nat → Int) : o_P := fun o n h => n = o_N ∧ (∃ g', h = o_mem g' ∧ o_xd g' M' P' S' T' ∧ o_fr x_f9 g g') ∧ ((k = 0 ∧ o = .inl (some v)) ∨ (∃ E, k ≠ 0 ∧ Es[(k - 1).toNat]? = some E ∧ o = .inr E))
section XX
variable {Es : List String} {k : Int} {v : Value} {M' : Nat → Nat → Int} {P' : List (Nat → Nat → Int)} {S' : Option (Nat → Nat → Int)} {T' g g' : Nat → Nat → Int}
theorem x_xY (hk : k = 0) (h : o_xd g' M' P' S' T' ∧ o_fr x_f9 g g') : x_x Es k v M' P' S' T' g (.inl (some v)) o_N (o_mem g') := ⟨rfl, ⟨g', rfl, h⟩, Or.inl ⟨hk, rfl⟩⟩
theorem x_xI {v z : Int} (hk : k = 0) (e : v = z) (h : o_xd g' M' P' S' T' ∧ o_fr x_f9 g g') : x_x Es k (.int (o_I v)) M' P' S' T' g (.inl (some (.int (o_I z)))) o_N (o_mem g') := by subst e; exact x_xY hk h
theorem x_xN {E : String} (hk : k ≠ 0) (hE : Es[(k - 1).toNat]? = some E) (h : o_xd g' M' P' S' T' ∧ o_fr x_f9 g g') : x_x Es k v M' P' S' T' g (.inr E) o_N (o_mem g') := ⟨rfl, ⟨g', rfl, h⟩, Or.inr ⟨E, hk, hE, rfl⟩⟩
theorem x_qN {p : Prop} [Decidable p] {E : String} (hp : ¬ p) (h : o_xd g' M' P' S' T' ∧ o_fr x_f9 g g') : x_x [E] (1 - o_b p) v M' P' S' T' g (.inr E) o_N (o_mem g') := x_xN (by rw [o_b0 hp]; decide) (by rw [o_b0 hp]; rfl) h
theorem x_qI {p : Prop} [Decidable p] {v z : Int} (hp : p) (e : v = z) (h : o_xd g' M' P' S' T' ∧ o_fr x_f9 g g') : x_x Es (1 - o_b p) (.int (o_I v)) M' P' S' T' g (.inl (some (.int (o_I z)))) o_N (o_mem g') := x_xI (by rw [o_b1 hp]; rfl) e h
end XX
theorem o_stb_c {g g' M : Nat → Nat → Int} {b : Nat} (h : o_stb g b M) (e : ∀ a, b ≤ a → a < b + 14 → g' a = g a) : o_stb g' b M := by
  obtain ⟨⟨h1, h2⟩, ⟨h3, h4⟩, ⟨h5, h6⟩, h7, h8, h9, h10⟩ := h
  refine ⟨⟨by rw [e _ (by omega) (by omega)]; exact h1, fun i hi => ?_⟩, ⟨by rw [e _ (by omega) (by omega)]; exact h3, fun i hi => ?_⟩, ⟨by rw [e _ (by omega) (by omega)]; exact h5, fun i hi => ?_⟩, by rw [e _ (by omega) (by omega)]; exact h7, by rw [e _ (by omega) (by omega)]; exact h8, by rw [e _ (by omega) (by omega)]; exact h9, by rw [e _ (by omega) (by omega)]; exact h10⟩
  · rw [e _ (by omega) (by omega), e _ (by omega) (by omega), e _ (by omega) (by omega)]; exact h2 i hi
  · rw [e _ (by omega) (by omega), e _ (by omega) (by omega), e _ (by omega) (by omega), e _ (by omega) (by omega), e _ (by omega) (by omega)]; exact h4 i hi
  · rw [e _ (by omega) (by omega), e _ (by omega) (by omega)]; exact h6 i hi
theorem o_st_c {g g' M : Nat → Nat → Int} (h : o_st g M) (e : ∀ a, 1 ≤ a → a < 15 → g' a = g a) : o_st g' M := o_stb_c (b := 1) h e
theorem o_hs_c {g g' : Nat → Nat → Int} {L : List (Nat → Nat → Int)} (h : o_hs g L) (e : ∀ a, 43 ≤ a → a < 157 → g' a = g a) : o_hs g' L := by
  obtain ⟨o, h1, h2, h3, h4, h5⟩ := h
  exact ⟨o, h1, by rw [e 43 (by decide) (by decide)]; exact h2, by rw [e 43 (by decide) (by decide)]; exact h3, h4, fun k M hk => o_stb_c (h5 k M hk) (fun a a1 a2 => e a (by omega) (by have := Nat.mod_lt (o + k) (show 8 > 0 by decide); omega))⟩
theorem x_m3_c {g g' : Nat → Nat → Int} {S : Option (Nat → Nat → Int)} (h : x_m3 g S) (e0 : g' 0 3 = g 0 3) (e : ∀ a, 29 ≤ a → a < 43 → g' a = g a) : x_m3 g' S := ⟨e0.trans h.1, fun M' hM => o_stb_c (h.2 M' hM) (fun a a1 a2 => e a a1 (by omega))⟩
theorem o_sb_c {g g' : Nat → Nat → Int} {L : List Int} (h : o_sb g L) (e0 : g' 190 = g 190) (e1 : g' 191 = g 191) : o_sb g' L := by unfold o_sb at h ⊢; rw [e0, e1]; exact h
theorem x_m4_c {g g' T : Nat → Nat → Int} (h : x_m4 g T) (e0 : ∀ j, 9 ≤ j → g' 0 j = g 0 j) (e2 : g' 163 2 = g 163 2) (e4 : g' 164 = g 164) (e8 : g' 190 = g 190) (e9 : g' 191 = g 191) : x_m4 g' T := by
  obtain ⟨a1, a2, ⟨L, a3, a4⟩, a5, a6, a7⟩ := h
  exact ⟨e2.trans a1, by rw [e4]; exact a2, ⟨L, o_sb_c a3 e8 e9, a4⟩, (e0 9 (by decide)).trans a5, (e0 10 (by decide)).trans a6, fun q => (e0 11 (by decide)).trans (a7 q)⟩
theorem o_xd_k {g g' M : Nat → Nat → Int} {P : List (Nat → Nat → Int)} {S : Option (Nat → Nat → Int)} {T : Nat → Nat → Int} (h : o_xd g M P S T) (f : o_fr (fun a => 157 ≤ a ∧ a ≤ 162) g g') : o_xd g' M P S T ∧ o_fr x_f9 g g' :=
  ⟨⟨o_st_c h.1 (fun a a1 a2 => f a (by omega)), o_hs_c h.2.1 (fun a a1 a2 => f a (by omega)), x_m3_c h.2.2.1 (by rw [f 0 (by omega)]) (fun a a1 a2 => f a (by omega)), x_m4_c h.2.2.2 (fun j _ => by rw [f 0 (by omega)]) (by rw [f 163 (by omega)]) (f 164 (by omega)) (f 190 (by omega)) (f 191 (by omega))⟩, o_fr_m f (fun a ha => show a ≤ 191 by omega)⟩
def x_fE (z : Int) : Option String := if z = 105 then some "java/lang/IndexOutOfBoundsException" else if z = 97 then some "java/lang/IllegalArgumentException" else if z = 115 then some "java/lang/IllegalStateException" else if z = 110 then some "java/util/NoSuchElementException" else if z = 117 then some "java/lang/UnsupportedOperationException" else none
set_option maxRecDepth 100000 in
set_option maxHeartbeats 4000000 in
/-- throwFor(no fault) -/
theorem ct_X11_throwForA {l : Launch} (hl : l.stackTraces = false) (d : Nat) (n : Nat) (h : Nat → o_C) (z : Int) (hz : z = 32) : o_Ct l yX11_throwFor wX11_throwFor (d + 1) o_no [.int (o_I z)] n h 0 0 (o_is none n h) := by
  refine o_Ct.ofV hl mX11_throwFor (by decide +kernel) rfl rfl rfl (Nat.le_of_ble_eq_true rfl) ?_
  refine o_iload_n dX11_throwFor_0 rfl ?_
  refine o_bipush dX11_throwFor_1 (by decide) ?_
  refine o_icmp_ne (tgt := 17) dX11_throwFor_3 (by decide) ⟨by omega, by omega⟩ ⟨by omega, by omega⟩ (fun c_3 => ?_) (fun c_3 => ?_)
  · skip
    refine o_iload_n dX11_throwFor_17 rfl ?_
    refine o_bipush dX11_throwFor_18 (by decide) ?_
    refine o_icmp_ne (tgt := 34) dX11_throwFor_20 (by decide) ⟨by omega, by omega⟩ ⟨by omega, by omega⟩ (fun c_20 => ?_) (fun c_20 => ?_)
    · skip
      refine o_iload_n dX11_throwFor_34 rfl ?_
      refine o_bipush dX11_throwFor_35 (by decide) ?_
      refine o_icmp_ne (tgt := 51) dX11_throwFor_37 (by decide) ⟨by omega, by omega⟩ ⟨by omega, by omega⟩ (fun c_37 => ?_) (fun c_37 => ?_)
      · skip
        refine o_iload_n dX11_throwFor_51 rfl ?_
        refine o_bipush dX11_throwFor_52 (by decide) ?_
        refine o_icmp_ne (tgt := 68) dX11_throwFor_54 (by decide) ⟨by omega, by omega⟩ ⟨by omega, by omega⟩ (fun c_54 => ?_) (fun c_54 => ?_)
        · skip
          refine o_iload_n dX11_throwFor_68 rfl ?_
          refine o_bipush dX11_throwFor_69 (by decide) ?_
          refine o_icmp_ne (tgt := 85) dX11_throwFor_71 (by decide) ⟨by omega, by omega⟩ ⟨by omega, by omega⟩ (fun c_71 => ?_) (fun c_71 => ?_)
          · skip
            refine o_ret0 dX11_throwFor_85 trivial ?_
            exact ⟨rfl, rfl, rfl⟩
          · skip
            exfalso; omega
        · skip
          exfalso; omega
      · skip
        exfalso; omega
    · skip
      exfalso; omega
  · skip
    exfalso; omega
set_option maxRecDepth 100000 in
set_option maxHeartbeats 4000000 in
/-- throwFor(a fault) -/
theorem ct_X11_throwForB {l : Launch} (hl : l.stackTraces = false) (d : Nat) (n : Nat) (h : Nat → o_C) (z : Int) (hz : 0 ≤ z ∧ z < 128) (E : String) (hE : x_fE z = some E) : o_Ct l yX11_throwFor wX11_throwFor (d + 1) o_no [.int (o_I z)] n h 1 6 (o_thr E n h) := by
  refine o_Ct.ofV hl mX11_throwFor (by decide +kernel) rfl rfl rfl (Nat.le_of_ble_eq_true rfl) ?_
  refine o_iload_n dX11_throwFor_0 rfl ?_
  refine o_bipush dX11_throwFor_1 (by decide) ?_
  refine o_icmp_ne (tgt := 17) dX11_throwFor_3 (by decide) ⟨by omega, by omega⟩ ⟨by omega, by omega⟩ (fun c_3 => ?_) (fun c_3 => ?_)
  · skip
    refine o_iload_n dX11_throwFor_17 rfl ?_
    refine o_bipush dX11_throwFor_18 (by decide) ?_
    refine o_icmp_ne (tgt := 34) dX11_throwFor_20 (by decide) ⟨by omega, by omega⟩ ⟨by omega, by omega⟩ (fun c_20 => ?_) (fun c_20 => ?_)
    · skip
      refine o_iload_n dX11_throwFor_34 rfl ?_
      refine o_bipush dX11_throwFor_35 (by decide) ?_
      refine o_icmp_ne (tgt := 51) dX11_throwFor_37 (by decide) ⟨by omega, by omega⟩ ⟨by omega, by omega⟩ (fun c_37 => ?_) (fun c_37 => ?_)
      · skip
        refine o_iload_n dX11_throwFor_51 rfl ?_
        refine o_bipush dX11_throwFor_52 (by decide) ?_
        refine o_icmp_ne (tgt := 68) dX11_throwFor_54 (by decide) ⟨by omega, by omega⟩ ⟨by omega, by omega⟩ (fun c_54 => ?_) (fun c_54 => ?_)
        · skip
          refine o_iload_n dX11_throwFor_68 rfl ?_
          refine o_bipush dX11_throwFor_69 (by decide) ?_
          refine o_icmp_ne (tgt := 85) dX11_throwFor_71 (by decide) ⟨by omega, by omega⟩ ⟨by omega, by omega⟩ (fun c_71 => ?_) (fun c_71 => ?_)
          · skip
            exfalso
            unfold x_fE at hE
            rw [if_neg (by omega), if_neg (by omega), if_neg (by omega), if_neg (by omega), if_neg (by omega)] at hE
            cases hE
          · skip
            exact o_tx (ci := 16) (text := "the ship has too few coins") (sn := 10) rfl tw_U (by decide) dX11_throwFor_74 dX11_throwFor_77 dX11_throwFor_78 dX11_throwFor_81 dX11_throwFor_84 (by decide) rfl rfl (by omega) (by omega) (by decide) (⟨by rw [← Option.some.inj ((show x_fE z = some _ from by rw [show z = 117 by omega]; rfl).symm.trans hE)], rfl, rfl⟩)
        · skip
          exact o_txN (ci := 15) (text := "the lamp is not leased") (sn := 9) rfl dX11_throwFor_57 dX11_throwFor_60 dX11_throwFor_61 dX11_throwFor_64 dX11_throwFor_67 (by decide) rfl rfl (by omega) (by omega) (by decide) (⟨by rw [← Option.some.inj ((show x_fE z = some _ from by rw [show z = 110 by omega]; rfl).symm.trans hE)], rfl, rfl⟩)
      · skip
        exact o_tx (ci := 14) (text := "the state does not allow this") (sn := 8) rfl tw_S (by decide) dX11_throwFor_40 dX11_throwFor_43 dX11_throwFor_44 dX11_throwFor_47 dX11_throwFor_50 (by decide) rfl rfl (by omega) (by omega) (by decide) (⟨by rw [← Option.some.inj ((show x_fE z = some _ from by rw [show z = 115 by omega]; rfl).symm.trans hE)], rfl, rfl⟩)
    · skip
      exact o_tx (ci := 13) (text := "an argument is out of range") (sn := 7) rfl tw_A (by decide) dX11_throwFor_23 dX11_throwFor_26 dX11_throwFor_27 dX11_throwFor_30 dX11_throwFor_33 (by decide) rfl rfl (by omega) (by omega) (by decide) (⟨by rw [← Option.some.inj ((show x_fE z = some _ from by rw [show z = 97 by omega]; rfl).symm.trans hE)], rfl, rfl⟩)
  · skip
    exact o_tx (ci := 12) (text := "there is no such ship or lamp") (sn := 6) rfl tw_I (by decide) dX11_throwFor_6 dX11_throwFor_9 dX11_throwFor_10 dX11_throwFor_13 dX11_throwFor_16 (by decide) rfl rfl (by omega) (by omega) (by decide) (⟨by rw [← Option.some.inj ((show x_fE z = some _ from by rw [show z = 105 by omega]; rfl).symm.trans hE)], rfl, rfl⟩)
set_option maxRecDepth 100000 in
set_option maxHeartbeats 4000000 in
/-- throwIfNothing(a number) -/
theorem ct_X11_throwIfNothingA {l : Launch} (hl : l.stackTraces = false) (d : Nat) (n : Nat) (h : Nat → o_C) (z : Int) (hR : o_R z) (hz : z ≠ -1) : o_Ct l yX11_throwIfNothing wX11_throwIfNothing (d + 1) o_no [.int (o_I z)] n h 0 0 (o_is none n h) := by
  refine o_Ct.ofV hl mX11_throwIfNothing (by decide +kernel) rfl rfl rfl (Nat.le_of_ble_eq_true rfl) ?_
  obtain ⟨hR1, hR2⟩ := id hR
  refine o_iload_n dX11_throwIfNothing_0 rfl ?_
  refine o_iconst dX11_throwIfNothing_1 ?_
  refine o_icmp_ne (tgt := 16) dX11_throwIfNothing_2 (by decide) ⟨by omega, by omega⟩ ⟨by omega, by omega⟩ (fun c_2 => ?_) (fun c_2 => ?_)
  · skip
    refine o_ret0 dX11_throwIfNothing_16 trivial ?_
    exact ⟨rfl, rfl, rfl⟩
  · skip
    exfalso; omega
set_option maxRecDepth 100000 in
set_option maxHeartbeats 4000000 in
/-- throwIfNothing(-1) -/
theorem ct_X11_throwIfNothingB {l : Launch} (hl : l.stackTraces = false) (d : Nat) (n : Nat) (h : Nat → o_C) (z : Int) (hz : z = -1) : o_Ct l yX11_throwIfNothing wX11_throwIfNothing (d + 1) o_no [.int (o_I z)] n h 1 6 (o_thr "java/util/NoSuchElementException" n h) := by
  refine o_Ct.ofV hl mX11_throwIfNothing (by decide +kernel) rfl rfl rfl (Nat.le_of_ble_eq_true rfl) ?_
  refine o_iload_n dX11_throwIfNothing_0 rfl ?_
  refine o_iconst dX11_throwIfNothing_1 ?_
  refine o_icmp_ne (tgt := 16) dX11_throwIfNothing_2 (by decide) ⟨by omega, by omega⟩ ⟨by omega, by omega⟩ (fun c_2 => ?_) (fun c_2 => ?_)
  · skip
    exfalso; omega
  · skip
    exact o_txN (ci := 15) (text := "there is nothing to answer") (sn := 13) rfl dX11_throwIfNothing_5 dX11_throwIfNothing_8 dX11_throwIfNothing_9 dX11_throwIfNothing_12 dX11_throwIfNothing_15 (by decide) rfl rfl (by omega) (by omega) (by decide) (⟨rfl, rfl, rfl⟩)
set_option maxRecDepth 100000 in
set_option maxHeartbeats 4000000 in
/-- throwUnlessShip(i) -/
theorem ct_X11_throwUnlessShipA {l : Launch} (hl : l.stackTraces = false) (d : Nat) (g : Nat → Nat → Int) (M : Nat → Nat → Int) (hst : o_st g M) (hwk : o_wk M) (i : Int) (hi : o_R i) (hp : 0 ≤ i ∧ i < M 0 0) : o_Ct l yX11_throwUnlessShip wX11_throwUnlessShip (d + 2) o_no [.ref 0, .int (o_I i)] o_N (o_mem g) 0 0 (o_is none o_N (o_mem g)) := by
  refine o_Ct.ofV hl mX11_throwUnlessShip (by decide +kernel) rfl rfl rfl (Nat.le_of_ble_eq_true rfl) ?_
  obtain ⟨hrs, hrl, hrq, hg3, hg4, hg5, hg6⟩ := id hst
  obtain ⟨hws, hwl, hwq, hwo, hwle, hwrq, hwrd⟩ := id hwk
  have hs0 := hrs.1
  have hl0 := hrl.1
  have hq0 := hrq.1
  have hs1 := o_rs2 hrs
  have hl1 := o_rl6 hrl
  have hq1 := o_rq12 hrq
  obtain ⟨hw1, hw2, hw3⟩ := id hws
  obtain ⟨hw4, hw5, hw6, hw7, hw8⟩ := id hwl
  obtain ⟨hw9, hw10, hw11⟩ := id hwq
  obtain ⟨hi1, hi2⟩ := id hi
  refine o_aload_n dX11_throwUnlessShip_0 rfl ?_
  refine o_gf dX11_throwUnlessShip_1 fl_X11_12 rfl (by decide) rfl ?_
  refine o_gf dX11_throwUnlessShip_4 fl_X11_80 rfl (by decide) rfl ?_
  refine o_iload_n dX11_throwUnlessShip_7 rfl ?_
  refine o_cV _ (ct_X9_exists hl d g M hrs hws i hi) dX11_throwUnlessShip_8 ml_X11_398 yw_X9_exists rfl (by decide) (by omega) (by decide) rfl rfl rfl (Nat.le_of_ble_eq_true rfl) ?_
  refine o_ifb_ne (tgt := 25) dX11_throwUnlessShip_11 (by decide) (fun c_11 => ?_) (fun c_11 => ?_)
  · skip
    refine o_ret0 dX11_throwUnlessShip_25 trivial ?_
    exact ⟨rfl, rfl, rfl⟩
  · skip
    exact absurd hp c_11
set_option maxRecDepth 100000 in
set_option maxHeartbeats 4000000 in
/-- throwUnlessShip(i) -/
theorem ct_X11_throwUnlessShipB {l : Launch} (hl : l.stackTraces = false) (d : Nat) (g : Nat → Nat → Int) (M : Nat → Nat → Int) (hst : o_st g M) (hwk : o_wk M) (i : Int) (hi : o_R i) (hp : ¬ (0 ≤ i ∧ i < M 0 0)) : o_Ct l yX11_throwUnlessShip wX11_throwUnlessShip (d + 2) o_no [.ref 0, .int (o_I i)] o_N (o_mem g) 1 6 (o_thr "java/lang/IndexOutOfBoundsException" o_N (o_mem g)) := by
  refine o_Ct.ofV hl mX11_throwUnlessShip (by decide +kernel) rfl rfl rfl (Nat.le_of_ble_eq_true rfl) ?_
  obtain ⟨hrs, hrl, hrq, hg3, hg4, hg5, hg6⟩ := id hst
  obtain ⟨hws, hwl, hwq, hwo, hwle, hwrq, hwrd⟩ := id hwk
  have hs0 := hrs.1
  have hl0 := hrl.1
  have hq0 := hrq.1
  have hs1 := o_rs2 hrs
  have hl1 := o_rl6 hrl
  have hq1 := o_rq12 hrq
  obtain ⟨hw1, hw2, hw3⟩ := id hws
  obtain ⟨hw4, hw5, hw6, hw7, hw8⟩ := id hwl
  obtain ⟨hw9, hw10, hw11⟩ := id hwq
  obtain ⟨hi1, hi2⟩ := id hi
  refine o_aload_n dX11_throwUnlessShip_0 rfl ?_
  refine o_gf dX11_throwUnlessShip_1 fl_X11_12 rfl (by decide) rfl ?_
  refine o_gf dX11_throwUnlessShip_4 fl_X11_80 rfl (by decide) rfl ?_
  refine o_iload_n dX11_throwUnlessShip_7 rfl ?_
  refine o_cV _ (ct_X9_exists hl d g M hrs hws i hi) dX11_throwUnlessShip_8 ml_X11_398 yw_X9_exists rfl (by decide) (by omega) (by decide) rfl rfl rfl (Nat.le_of_ble_eq_true rfl) ?_
  refine o_ifb_ne (tgt := 25) dX11_throwUnlessShip_11 (by decide) (fun c_11 => ?_) (fun c_11 => ?_)
  · skip
    exact absurd c_11 hp
  · skip
    exact o_tx (ci := 12) (text := "there is no such ship") (sn := 11) rfl tw_I (by decide) dX11_throwUnlessShip_14 dX11_throwUnlessShip_17 dX11_throwUnlessShip_18 dX11_throwUnlessShip_21 dX11_throwUnlessShip_24 (by decide) rfl rfl (by omega) (by omega) (by decide) (⟨rfl, rfl, rfl⟩)
set_option maxRecDepth 100000 in
set_option maxHeartbeats 4000000 in
/-- throwUnlessLamp(i) -/
theorem ct_X11_throwUnlessLampA {l : Launch} (hl : l.stackTraces = false) (d : Nat) (g : Nat → Nat → Int) (M : Nat → Nat → Int) (hst : o_st g M) (hwk : o_wk M) (i : Int) (hi : o_R i) (hp : 0 ≤ i ∧ i < M 0 1) : o_Ct l yX11_throwUnlessLamp wX11_throwUnlessLamp (d + 2) o_no [.ref 0, .int (o_I i)] o_N (o_mem g) 0 0 (o_is none o_N (o_mem g)) := by
  refine o_Ct.ofV hl mX11_throwUnlessLamp (by decide +kernel) rfl rfl rfl (Nat.le_of_ble_eq_true rfl) ?_
  obtain ⟨hrs, hrl, hrq, hg3, hg4, hg5, hg6⟩ := id hst
  obtain ⟨hws, hwl, hwq, hwo, hwle, hwrq, hwrd⟩ := id hwk
  have hs0 := hrs.1
  have hl0 := hrl.1
  have hq0 := hrq.1
  have hs1 := o_rs2 hrs
  have hl1 := o_rl6 hrl
  have hq1 := o_rq12 hrq
  obtain ⟨hw1, hw2, hw3⟩ := id hws
  obtain ⟨hw4, hw5, hw6, hw7, hw8⟩ := id hwl
  obtain ⟨hw9, hw10, hw11⟩ := id hwq
  obtain ⟨hi1, hi2⟩ := id hi
  refine o_aload_n dX11_throwUnlessLamp_0 rfl ?_
  refine o_gf dX11_throwUnlessLamp_1 fl_X11_12 rfl (by decide) rfl ?_
  refine o_gf dX11_throwUnlessLamp_4 fl_X11_94 rfl (by decide) rfl ?_
  refine o_iload_n dX11_throwUnlessLamp_7 rfl ?_
  refine o_cV _ (ct_X7_exists hl d g M hrl hwl i hi) dX11_throwUnlessLamp_8 ml_X11_403 yw_X7_exists rfl (by decide) (by omega) (by decide) rfl rfl rfl (Nat.le_of_ble_eq_true rfl) ?_
  refine o_ifb_ne (tgt := 25) dX11_throwUnlessLamp_11 (by decide) (fun c_11 => ?_) (fun c_11 => ?_)
  · skip
    refine o_ret0 dX11_throwUnlessLamp_25 trivial ?_
    exact ⟨rfl, rfl, rfl⟩
  · skip
    exact absurd hp c_11
set_option maxRecDepth 100000 in
set_option maxHeartbeats 4000000 in
/-- throwUnlessLamp(i) -/
theorem ct_X11_throwUnlessLampB {l : Launch} (hl : l.stackTraces = false) (d : Nat) (g : Nat → Nat → Int) (M : Nat → Nat → Int) (hst : o_st g M) (hwk : o_wk M) (i : Int) (hi : o_R i) (hp : ¬ (0 ≤ i ∧ i < M 0 1)) : o_Ct l yX11_throwUnlessLamp wX11_throwUnlessLamp (d + 2) o_no [.ref 0, .int (o_I i)] o_N (o_mem g) 1 6 (o_thr "java/lang/IndexOutOfBoundsException" o_N (o_mem g)) := by
  refine o_Ct.ofV hl mX11_throwUnlessLamp (by decide +kernel) rfl rfl rfl (Nat.le_of_ble_eq_true rfl) ?_
  obtain ⟨hrs, hrl, hrq, hg3, hg4, hg5, hg6⟩ := id hst
  obtain ⟨hws, hwl, hwq, hwo, hwle, hwrq, hwrd⟩ := id hwk
  have hs0 := hrs.1
  have hl0 := hrl.1
  have hq0 := hrq.1
  have hs1 := o_rs2 hrs
  have hl1 := o_rl6 hrl
  have hq1 := o_rq12 hrq
  obtain ⟨hw1, hw2, hw3⟩ := id hws
  obtain ⟨hw4, hw5, hw6, hw7, hw8⟩ := id hwl
  obtain ⟨hw9, hw10, hw11⟩ := id hwq
  obtain ⟨hi1, hi2⟩ := id hi
  refine o_aload_n dX11_throwUnlessLamp_0 rfl ?_
  refine o_gf dX11_throwUnlessLamp_1 fl_X11_12 rfl (by decide) rfl ?_
  refine o_gf dX11_throwUnlessLamp_4 fl_X11_94 rfl (by decide) rfl ?_
  refine o_iload_n dX11_throwUnlessLamp_7 rfl ?_
  refine o_cV _ (ct_X7_exists hl d g M hrl hwl i hi) dX11_throwUnlessLamp_8 ml_X11_403 yw_X7_exists rfl (by decide) (by omega) (by decide) rfl rfl rfl (Nat.le_of_ble_eq_true rfl) ?_
  refine o_ifb_ne (tgt := 25) dX11_throwUnlessLamp_11 (by decide) (fun c_11 => ?_) (fun c_11 => ?_)
  · skip
    exact absurd c_11 hp
  · skip
    exact o_tx (ci := 12) (text := "there is no such lamp") (sn := 12) rfl tw_I (by decide) dX11_throwUnlessLamp_14 dX11_throwUnlessLamp_17 dX11_throwUnlessLamp_18 dX11_throwUnlessLamp_21 dX11_throwUnlessLamp_24 (by decide) rfl rfl (by omega) (by omega) (by decide) (⟨rfl, rfl, rfl⟩)
set_option maxRecDepth 100000 in
set_option maxHeartbeats 4000000 in
/-- throwUnlessPosition(i) -/
theorem ct_X11_throwUnlessPositionA {l : Launch} (hl : l.stackTraces = false) (d : Nat) (g : Nat → Nat → Int) (M : Nat → Nat → Int) (hst : o_st g M) (hwk : o_wk M) (i : Int) (hi : o_R i) (hp : 0 ≤ i ∧ i < M 0 6) : o_Ct l yX11_throwUnlessPosition wX11_throwUnlessPosition (d + 1) o_no [.ref 0, .int (o_I i)] o_N (o_mem g) 0 0 (o_is none o_N (o_mem g)) := by
  refine o_Ct.ofV hl mX11_throwUnlessPosition (by decide +kernel) rfl rfl rfl (Nat.le_of_ble_eq_true rfl) ?_
  obtain ⟨hrs, hrl, hrq, hg3, hg4, hg5, hg6⟩ := id hst
  obtain ⟨hws, hwl, hwq, hwo, hwle, hwrq, hwrd⟩ := id hwk
  have hs0 := hrs.1
  have hl0 := hrl.1
  have hq0 := hrq.1
  have hs1 := o_rs2 hrs
  have hl1 := o_rl6 hrl
  have hq1 := o_rq12 hrq
  obtain ⟨hw1, hw2, hw3⟩ := id hws
  obtain ⟨hw4, hw5, hw6, hw7, hw8⟩ := id hwl
  obtain ⟨hw9, hw10, hw11⟩ := id hwq
  obtain ⟨hi1, hi2⟩ := id hi
  refine o_iload_n dX11_throwUnlessPosition_0 rfl ?_
  refine o_if_lt (tgt := 18) dX11_throwUnlessPosition_1 (by decide) ⟨by omega, by omega⟩ (fun c_1 => ?_) (fun c_1 => ?_)
  · skip
    exfalso; omega
  · skip
    refine o_iload_n dX11_throwUnlessPosition_4 rfl ?_
    refine o_aload_n dX11_throwUnlessPosition_5 rfl ?_
    refine o_gf dX11_throwUnlessPosition_6 fl_X11_12 rfl (by decide) rfl ?_
    refine o_gf dX11_throwUnlessPosition_9 fl_X11_121 rfl (by decide) rfl ?_
    refine o_gf dX11_throwUnlessPosition_12 fl_X11_227 rfl (by decide) rfl ?_
    refine o_icmp_lt (tgt := 29) dX11_throwUnlessPosition_15 (by decide) ⟨by omega, by omega⟩ ⟨by omega, by omega⟩ (fun c_15 => ?_) (fun c_15 => ?_)
    · skip
      refine o_ret0 dX11_throwUnlessPosition_29 trivial ?_
      exact ⟨rfl, rfl, rfl⟩
    · skip
      exfalso; omega
set_option maxRecDepth 100000 in
set_option maxHeartbeats 4000000 in
/-- throwUnlessPosition(i) -/
theorem ct_X11_throwUnlessPositionB {l : Launch} (hl : l.stackTraces = false) (d : Nat) (g : Nat → Nat → Int) (M : Nat → Nat → Int) (hst : o_st g M) (hwk : o_wk M) (i : Int) (hi : o_R i) (hp : ¬ (0 ≤ i ∧ i < M 0 6)) : o_Ct l yX11_throwUnlessPosition wX11_throwUnlessPosition (d + 1) o_no [.ref 0, .int (o_I i)] o_N (o_mem g) 1 6 (o_thr "java/util/NoSuchElementException" o_N (o_mem g)) := by
  refine o_Ct.ofV hl mX11_throwUnlessPosition (by decide +kernel) rfl rfl rfl (Nat.le_of_ble_eq_true rfl) ?_
  obtain ⟨hrs, hrl, hrq, hg3, hg4, hg5, hg6⟩ := id hst
  obtain ⟨hws, hwl, hwq, hwo, hwle, hwrq, hwrd⟩ := id hwk
  have hs0 := hrs.1
  have hl0 := hrl.1
  have hq0 := hrq.1
  have hs1 := o_rs2 hrs
  have hl1 := o_rl6 hrl
  have hq1 := o_rq12 hrq
  obtain ⟨hw1, hw2, hw3⟩ := id hws
  obtain ⟨hw4, hw5, hw6, hw7, hw8⟩ := id hwl
  obtain ⟨hw9, hw10, hw11⟩ := id hwq
  obtain ⟨hi1, hi2⟩ := id hi
  refine o_iload_n dX11_throwUnlessPosition_0 rfl ?_
  refine o_if_lt (tgt := 18) dX11_throwUnlessPosition_1 (by decide) ⟨by omega, by omega⟩ (fun c_1 => ?_) (fun c_1 => ?_)
  · skip
    exact o_txN (ci := 15) (text := "there is no such position") (sn := 14) rfl dX11_throwUnlessPosition_18 dX11_throwUnlessPosition_21 dX11_throwUnlessPosition_22 dX11_throwUnlessPosition_25 dX11_throwUnlessPosition_28 (by decide) rfl rfl (by omega) (by omega) (by decide) (⟨rfl, rfl, rfl⟩)
  · skip
    refine o_iload_n dX11_throwUnlessPosition_4 rfl ?_
    refine o_aload_n dX11_throwUnlessPosition_5 rfl ?_
    refine o_gf dX11_throwUnlessPosition_6 fl_X11_12 rfl (by decide) rfl ?_
    refine o_gf dX11_throwUnlessPosition_9 fl_X11_121 rfl (by decide) rfl ?_
    refine o_gf dX11_throwUnlessPosition_12 fl_X11_227 rfl (by decide) rfl ?_
    refine o_icmp_lt (tgt := 29) dX11_throwUnlessPosition_15 (by decide) ⟨by omega, by omega⟩ ⟨by omega, by omega⟩ (fun c_15 => ?_) (fun c_15 => ?_)
    · skip
      exfalso; omega
    · skip
      exact o_txN (ci := 15) (text := "there is no such position") (sn := 14) rfl dX11_throwUnlessPosition_18 dX11_throwUnlessPosition_21 dX11_throwUnlessPosition_22 dX11_throwUnlessPosition_25 dX11_throwUnlessPosition_28 (by decide) rfl rfl (by omega) (by omega) (by decide) (⟨rfl, rfl, rfl⟩)

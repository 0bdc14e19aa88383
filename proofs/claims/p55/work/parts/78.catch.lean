/-! the law catches -/
section OCT
variable {l : Launch} {M : o_M} {d : Nat} {al : Nat → Prop} {post : o_P} {pc : Nat} {ls : List (Nat × Value)} {n : Nat} {h : Nat → o_C} {mc ms : Nat}
/-- an exception caught: the handler's first instruction puts it into a variable that is not read again -/
theorem o_T.on {E : String} {pre suf : List (Nat × Nat × Nat × Nat)} {a b hpc ct i : Nat} (hsp : M.2.2.2.2.1 = pre ++ (a, b, hpc, ct) :: suf) (hpass : ∀ z ∈ pre, z.2.2.2 ≠ 0 ∧ ∃ nm, Cond.classLink M.1 z.2.2.2 nm ∈ o_gW ∧ (E, nm) ∈ o_ncs) (hcov : a ≤ pc ∧ pc < b) (h0 : ct ≠ 0) (hlink : Cond.classLink M.1 ct E ∈ o_gW) (hex : E ∈ o_exs) (hi : i < M.2.2.1)
    (hd : (∃ k : Fin 4, (k : Nat) = i ∧ decode M.2.1 hpc = .ok (.astore_n k, 1)) ∨ decode M.2.1 hpc = .ok (.astore i, 2)) (hls : ∀ q ∈ ls, q.1 ≠ i ∧ (q.1 + 1 = i → q.2.category ≠ 2))
    (k1 : (∃ k : Fin 4, (k : Nat) = i ∧ decode M.2.1 hpc = .ok (.astore_n k, 1)) → o_V l M d al post (hpc + 1) ls [] n h mc ms) (k2 : decode M.2.1 hpc = .ok (.astore i, 2) → o_V l M d al post (hpc + 2) ls [] n h mc ms) : o_T l M d al post pc ls E n h mc ms := by
  intro Z p e R s m args below meth c ad H locs cells slots MC MS la Q q ce rest X E' S P a1 a2 a3 a4 L K hce hcv hcl
  obtain ⟨hx, hbb, hown, hts, hml, hr, hlk, htab, hst9, hfr9, hlo9⟩ := id X
  obtain ⟨e1, e2, ⟨e3, e4, e34, e35, e36⟩, e5, -⟩ := id E'
  have htab9 := htab.1
  rw [hsp] at htab9
  refine vx_catch (own := M.1) (name := E) hown (tableOf pre) { startPc := a, endPc := b, handlerPc := hpc, catchType := ct } (tableOf suf) (htab9.trans (by unfold tableOf; rw [List.map_append, List.map_cons])) (fun z hz => Or.inr ?_) (by unfold covers; simp; exact hcov) h0 (hts _ hlink) ((e34 _ hex).use rfl) hce hcv hcl ?_
  · unfold tableOf at hz
    obtain ⟨z0, hz0, rfl⟩ := List.mem_map.mp hz
    obtain ⟨u1, nm, u2, u3⟩ := hpass z0 hz0
    exact ⟨u1, nm, hts _ u2, e35 _ u3⟩
  · have sub : ∀ la', lv_has la' M.2.2.1 ((i, Value.ref q) :: (ls.map (fun q => (q.1, o_rV ad q.2))).filter (fun q => !(q.1 == i) && !(q.1 + 1 == i && q.2.category == 2))) → lv_has la' M.2.2.1 (ls.map (fun q => (q.1, o_rV ad q.2))) := by
      intro la' hL
      refine ⟨hL.1, hL.2.1, fun x hx9 => hL.2.2 x (List.mem_cons_of_mem _ (List.mem_filter.mpr ⟨hx9, ?_⟩))⟩
      obtain ⟨y, hy, rfl⟩ := List.mem_map.mp hx9
      have hy9 := hls y hy
      have hcy : (o_rV ad y.2).category = y.2.category := o_cat ad y.2
      simp only [Bool.and_eq_true, Bool.not_eq_true', beq_eq_false_iff_ne, ne_eq, Bool.and_eq_false_iff, hcy]
      refine ⟨hy9.1, ?_⟩
      by_cases w : y.1 + 1 = i
      · exact Or.inr (hy9.2 w)
      · exact Or.inl w
    rcases id hd with ⟨k, hk, hdk⟩ | hdk
    · exact lv_astore_n hx hbb hdk hk L hi rfl (fun la' L' => k1 ⟨k, hk, hdk⟩ Z p e R s m args below meth c ad H locs cells slots MC MS la' Q X E' S P a1 a2 a3 a4 (sub la' L') K)
    · exact lv_astore hx hbb hdk L hi rfl (fun la' L' => k2 hdk Z p e R s m args below meth c ad H locs cells slots MC MS la' Q X E' S P a1 a2 a3 a4 (sub la' L') K)
end OCT

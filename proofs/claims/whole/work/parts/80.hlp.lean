/-! the law's helpers -/
theorem h_i2l {v : Int} (hv : o_R v) : (o_I v).toInt64 = Int64.ofInt v := by
  have e : (o_I v).toInt = v := Int32.toInt_ofInt_of_le (by have := hv.1; omega) (by have := hv.2; omega)
  rw [← Int64.ofInt_int32ToInt, e]
section HS
variable {l : Launch} {M : o_M} {d : Nat} {al : Nat → Prop} {post : o_P} {pc : Nat} {ls : List (Nat × Value)} {st : List Value} {mc ms : Nat} {g : Nat → Nat → Int}
/-- the answer is put aside -/
theorem h_last {v : Int} (hv : o_R v) (hd : decode M.2.1 pc = .ok (.lastore, 1)) (k9 : ∀ g1, g1 = o_e g 201 0 v → o_V l M d al post (pc + 1) ls st o_N (o_mem g1) mc ms) : o_V l M d al post pc ls (.long ((o_I v).toInt64) :: .int (o_I 0) :: .ref 201 :: st) o_N (o_mem g) mc ms := by
  refine o_last (f := fun j => Int64.ofInt (g 201 j)) (len := 1) (h' := o_mem (o_e g 201 0 v)) hd (by decide) rfl (by decide) (by decide) (by decide) ?_ (k9 _ rfl)
  rw [← o_ew]
  refine o_mw ?_ (by unfold o_w; rw [if_neg (by decide)])
  show (Sum.inl (4, 1, .inr (.inl (vp_updL (fun j => Int64.ofInt (g 201 j)) (0 : Int).toNat ((o_I v).toInt64)))) : o_C) = (Sum.inl (4, 1, .inr (.inl (fun j => Int64.ofInt (o_u (g 201) 0 v j)))) : o_C)
  rw [h_i2l hv, show vp_updL (fun j => Int64.ofInt (g 201 j)) (0 : Int).toNat (Int64.ofInt v) = fun j => Int64.ofInt (o_u (g 201) 0 v j) from (funext fun j => by
    unfold vp_updL o_u
    by_cases h : j = 0
    · subst h; simp
    · simp [h])]
end HS

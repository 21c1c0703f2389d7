theorem tc_gd_0 : tc_gd [] := ⟨by decide, by decide, fun c h => by cases h⟩
/-- at first -/
theorem JI_0 : JI tc_K0 mo_I0 mo_A0 mo_L0 (fun _ => 0, []) := by
  refine ⟨fun _ => none, (fun c => if c = 1 then some [] else none, fun _ => false), fun _ => [], 0, 0, fun _ => 0, [], 0, 0, fun _ => 0, 0, ?_, ?_, ?_, ?_⟩
  · refine ⟨rfl, fun m k n v h => (by cases h), fun c cl h => ?_, fun c h => (by cases h)⟩
    have h : (if c = 1 then some [] else none) = some cl := h
    by_cases e : c = 1
    · rw [if_pos e] at h
      cases h
      exact Or.inl ⟨e, rfl⟩
    · rw [if_neg e] at h
      cases h
  · refine ⟨⟨by decide, rfl, rfl, rfl, rfl, rfl, rfl, ⟨0, by decide, rfl⟩, 0, by decide, rfl⟩, ⟨fun p hp => absurd hp (Nat.not_lt_zero p), fun p hp => absurd hp (Nat.not_lt_zero p), fun p _ hp => absurd hp (Nat.not_lt_zero p)⟩, ⟨fun m hm => absurd hm (Nat.not_lt_zero m), fun m _ => ⟨0, by decide, rfl⟩, fun i hi y hy => ?_⟩, ⟨fun m _ => ⟨0, by decide, rfl, rfl⟩, fun _ _ => rfl, fun i _ => ⟨0, by decide, rfl, rfl⟩⟩, ⟨rfl, tc_gd_0, Or.inl ⟨rfl, rfl⟩⟩, ⟨by decide, rfl, rfl, fun i hi => absurd hi (Nat.not_lt_zero i)⟩, ⟨by decide, rfl, rfl, fun i hi => absurd hi (Nat.not_lt_zero i), fun i _ => ⟨0, by decide, rfl⟩⟩⟩
    have hy : (if i < 6 then some 6 else none) = some y := hy
    rw [if_pos hi] at hy
    cases hy
    exact Or.inl rfl
  · refine ⟨⟨rfl, rfl, by decide, fun s hs => absurd hs (Nat.not_lt_zero s), fun _ => Or.inl rfl, fun i _ _ => rfl⟩, ⟨by decide, rfl, rfl, fun i hi => absurd hi (Nat.not_lt_zero i)⟩, ⟨rfl, fun i _ => rfl⟩, ?_, rfl, rfl⟩
    refine s6 ?_ ?_ ?_ ?_ ?_ ?_
    all_goals exact ⟨rfl, rfl, by decide, ⟨0, by decide, rfl, fun _ => rfl⟩, fun _ _ => rfl⟩
  · refine ⟨fun i hi y hy => ?_, fun i _ => ⟨0, by decide, rfl⟩, Or.inl ⟨rfl, rfl⟩⟩
    have hy : (if i < 6 then some 6 else none) = some y := hy
    rw [if_pos hi] at hy
    cases hy
    exact Or.inl rfl
theorem HM_0 : HM (HC tc_K0 (fun _ => 0)) mo_I0 mo_A0 mo_L0 [] = HT tc_K0 (JM mo_I0 mo_A0 mo_L0) (fun _ => 0, []) := rfl

theorem sp_inv0 {T : Nat → Nat} {n q d p p' : Nat} {l : List Nat} (h : sp_P T n (q + 1) 0 d p = (some l, p')) : (∃ l0, d < 4 ∧ sp_P T n q 0 (d + 1) (p + 1) = (some l0, p') ∧ l = l0 ++ [6000]) ∨ (∃ b, d < 4 ∧ sp_P T n q 2 (d + 1) (p + 1) = (some l, b)) ∨ (∃ t, sp_test T n p = (some t, p') ∧ l = [t]) := by
  rw [sp_P, if_pos rfl] at h
  by_cases h33 : sp_is T n p 33
  · rw [if_pos h33] at h
    by_cases hd : 4 ≤ d
    · rw [if_pos hd] at h; cases h
    · rw [if_neg hd] at h
      cases hr : sp_P T n q 0 (d + 1) (p + 1) with
      | mk a b =>
        cases a with
        | none => simp only [hr] at h; cases h
        | some e => simp only [hr] at h; cases h; exact Or.inl ⟨e, by omega, rfl, rfl⟩
  · rw [if_neg h33] at h
    by_cases h40 : sp_is T n p 40
    · rw [if_pos h40] at h
      by_cases hd : 4 ≤ d
      · rw [if_pos hd] at h; cases h
      · rw [if_neg hd] at h
        cases hr : sp_P T n q 2 (d + 1) (p + 1) with
        | mk a b =>
          cases a with
          | none => simp only [hr] at h; cases h
          | some e =>
            simp only [hr] at h
            by_cases h41 : sp_is T n b 41
            · rw [if_pos h41] at h; cases h; exact Or.inr (Or.inl ⟨b, by omega, rfl⟩)
            · rw [if_neg h41] at h; cases h
    · rw [if_neg h40] at h
      cases hr : sp_test T n p with
      | mk a b =>
        cases a with
        | none => simp only [hr] at h; cases h
        | some e => simp only [hr] at h; cases h; exact Or.inr (Or.inr ⟨e, rfl, rfl⟩)
theorem sp_inv1 {T : Nat → Nat} {n q d p p' : Nat} {l : List Nat} (h : sp_P T n (q + 1) 1 d p = (some l, p')) : ∃ l1 l2 p1, sp_P T n q 0 d p = (some l1, p1) ∧ sp_P T n q 3 d p1 = (some l2, p') ∧ l = l1 ++ l2 := by
  rw [sp_P, if_neg (by decide), if_pos rfl] at h
  cases hr : sp_P T n q 0 d p with
  | mk x y =>
    cases x with
    | none => simp only [hr] at h; cases h
    | some e =>
      simp only [hr] at h
      cases hr2 : sp_P T n q 3 d y with
      | mk x2 y2 =>
        cases x2 with
        | none => simp only [hr2] at h; cases h
        | some e2 => simp only [hr2] at h; cases h; exact ⟨e, e2, y, rfl, hr2, rfl⟩
theorem sp_inv2 {T : Nat → Nat} {n q d p p' : Nat} {l : List Nat} (h : sp_P T n (q + 1) 2 d p = (some l, p')) : ∃ l1 l2 p1, sp_P T n q 1 d p = (some l1, p1) ∧ sp_P T n q 4 d p1 = (some l2, p') ∧ l = l1 ++ l2 := by
  rw [sp_P, if_neg (by decide), if_neg (by decide), if_pos rfl] at h
  cases hr : sp_P T n q 1 d p with
  | mk x y =>
    cases x with
    | none => simp only [hr] at h; cases h
    | some e =>
      simp only [hr] at h
      cases hr2 : sp_P T n q 4 d y with
      | mk x2 y2 =>
        cases x2 with
        | none => simp only [hr2] at h; cases h
        | some e2 => simp only [hr2] at h; cases h; exact ⟨e, e2, y, rfl, hr2, rfl⟩
theorem sp_inv3 {T : Nat → Nat} {n q d p p' : Nat} {l : List Nat} (h : sp_P T n (q + 1) 3 d p = (some l, p')) : l = [] ∨ ∃ l1 l2 p1, sp_P T n q 0 d (p + 1) = (some l1, p1) ∧ sp_P T n q 3 d p1 = (some l2, p') ∧ l = l1 ++ [6001] ++ l2 := by
  rw [sp_P, if_neg (by decide), if_neg (by decide), if_neg (by decide), if_pos rfl] at h
  by_cases hs : sp_is T n p 38
  · rw [if_pos hs] at h
    cases hr : sp_P T n q 0 d (p + 1) with
    | mk x y =>
      cases x with
      | none => simp only [hr] at h; cases h
      | some e =>
        simp only [hr] at h
        cases hr2 : sp_P T n q 3 d y with
        | mk x2 y2 =>
          cases x2 with
          | none => simp only [hr2] at h; cases h
          | some e2 => simp only [hr2] at h; cases h; exact Or.inr ⟨e, e2, y, rfl, hr2, rfl⟩
  · rw [if_neg hs] at h; cases h; exact Or.inl rfl
theorem sp_inv4 {T : Nat → Nat} {n q d p p' : Nat} {l : List Nat} (h : sp_P T n (q + 1) 4 d p = (some l, p')) : l = [] ∨ ∃ l1 l2 p1, sp_P T n q 1 d (p + 1) = (some l1, p1) ∧ sp_P T n q 4 d p1 = (some l2, p') ∧ l = l1 ++ [6002] ++ l2 := by
  rw [sp_P, if_neg (by decide), if_neg (by decide), if_neg (by decide), if_neg (by decide)] at h
  by_cases hs : sp_is T n p 124
  · rw [if_pos hs] at h
    cases hr : sp_P T n q 1 d (p + 1) with
    | mk x y =>
      cases x with
      | none => simp only [hr] at h; cases h
      | some e =>
        simp only [hr] at h
        cases hr2 : sp_P T n q 4 d y with
        | mk x2 y2 =>
          cases x2 with
          | none => simp only [hr2] at h; cases h
          | some e2 => simp only [hr2] at h; cases h; exact Or.inr ⟨e, e2, y, rfl, hr2, rfl⟩
  · rw [if_neg hs] at h; cases h; exact Or.inl rfl
theorem sp_test_w {T : Nat → Nat} {n p t p' : Nat} (h : sp_test T n p = (some t, p')) : tc_wf t ∧ t < 6000 := by
  unfold sp_test at h
  split at h
  · cases h
  · rename_i f hf
    split at h
    · rename_i h1
      cases hn : sp_num T n (p + 2) with
      | mk a b =>
        cases a with
        | none => simp only [hn] at h; cases h
        | some e =>
          simp only [hn] at h
          have hb := sp_num_b hn
          cases h
          have hf6 : f < 6 := by
            by_cases hp : p < n
            · rw [if_pos hp] at hf; exact sp_let_b hf
            · rw [if_neg hp] at hf; cases hf
          have h2 := h1.2.1
          have h3 := h1.2.2
          exact ⟨⟨by omega, fun _ => by omega⟩, by omega⟩
    · cases h
def nd (m d : Nat) : Nat := 1 + 2 * (4 - d) + (if m = 1 ∨ m = 4 then 1 else if m = 2 then 2 else 0)
theorem okd_le {B : Nat} : ∀ {r : List Nat} {z : Nat}, sp_okd B r z → z ≤ B
  | [], _, h => h
  | _ :: _, _, h => h.1
def pK (T : Nat → Nat) (n q m d p : Nat) (l : List Nat) (p' : Nat) : Prop := d ≤ 4 → sp_P T n q m d p = (some l, p') → (∀ t, t ∈ l → tc_wf t) ∧ ∀ r z, (3 ≤ m → 1 ≤ z) → z + nd m d ≤ 11 → sp_okd 11 r (if m ≤ 2 then z + 1 else z) → sp_okd 11 (l ++ r) z
theorem sp_P_k {T : Nat → Nat} {n : Nat} : ∀ (q m d p : Nat) (l : List Nat) (p' : Nat), m ≤ 4 → pK T n q m d p l p' := by
  intro q
  induction q with
  | zero => intro m d p l p' _ _ h; cases h
  | succ q ih =>
    intro m d p l p' hm hd h
    have M : m = 0 ∨ m = 1 ∨ m = 2 ∨ m = 3 ∨ m = 4 := by omega
    have J : ∀ (a b : Nat) (l1 l2 : List Nat) (x y z : Nat), a ≤ 2 → b ≤ 4 → sp_P T n q a d x = (some l1, y) → sp_P T n q b d y = (some l2, z) → (∀ t, t ∈ l1 ++ l2 → tc_wf t) := by
      intro a b l1 l2 x y z ha hb h1 h2 t ht
      rcases List.mem_append.mp ht with ht | ht
      · exact (ih a d x l1 y (by omega) hd h1).1 t ht
      · exact (ih b d y l2 z hb hd h2).1 t ht
    rcases M with rfl | rfl | rfl | rfl | rfl
    · rcases sp_inv0 h with ⟨l0, hd4, h0, rfl⟩ | ⟨b, hd4, h0⟩ | ⟨t, h0, rfl⟩
      · have H := ih 0 (d + 1) (p + 1) l0 p' (by decide) (by omega) h0
        refine ⟨fun t ht => ?_, fun r z _ hz hr => ?_⟩
        · rcases List.mem_append.mp ht with ht | ht
          · exact H.1 t ht
          · rw [List.mem_singleton.mp ht]; exact ⟨by decide, fun z => absurd z (by decide)⟩
        · rw [if_pos (by decide)] at hr
          rw [List.append_assoc]
          have hz' : z + (1 + 2 * (4 - d) + 0) ≤ 11 := hz
          refine H.2 ([6000] ++ r) z (fun h => by omega) (show z + (1 + 2 * (4 - (d + 1)) + 0) ≤ 11 by omega) ?_
          rw [if_pos (by decide)]
          show (z + 1 ≤ 11) ∧ sp_okd 11 r (if 6000 < 6000 then z + 1 + 1 else if 6000 = 6000 then z + 1 else z + 1 - 1)
          rw [if_neg (by decide), if_pos rfl]
          exact ⟨by omega, hr⟩
      · have H := ih 2 (d + 1) (p + 1) l b (by decide) (by omega) h0
        refine ⟨H.1, fun r z _ hz hr => ?_⟩
        have hz' : z + (1 + 2 * (4 - d) + 0) ≤ 11 := hz
        refine H.2 r z (fun h => by omega) (show z + (1 + 2 * (4 - (d + 1)) + 2) ≤ 11 by omega) ?_
        rw [if_pos (by decide)] at hr ⊢
        exact hr
      · have H := sp_test_w h0
        refine ⟨fun t' ht => by rw [List.mem_singleton.mp ht]; exact H.1, fun r z _ hz hr => ?_⟩
        have hz' : z + (1 + 2 * (4 - d) + 0) ≤ 11 := hz
        rw [if_pos (by decide)] at hr
        show (z ≤ 11) ∧ sp_okd 11 r (if t < 6000 then z + 1 else if t = 6000 then z else z - 1)
        rw [if_pos H.2]
        exact ⟨by omega, hr⟩
    · obtain ⟨l1, l2, p1, h1, h2, rfl⟩ := sp_inv1 h
      refine ⟨J 0 3 l1 l2 p p1 p' (by decide) (by decide) h1 h2, fun r z _ hz hr => ?_⟩
      have hz' : z + (1 + 2 * (4 - d) + 1) ≤ 11 := hz
      rw [if_pos (by decide)] at hr
      rw [List.append_assoc]
      refine (ih 0 d p l1 p1 (by decide) hd h1).2 (l2 ++ r) z (fun h => by omega) (show z + (1 + 2 * (4 - d) + 0) ≤ 11 by omega) ?_
      rw [if_pos (by decide)]
      exact (ih 3 d p1 l2 p' (by decide) hd h2).2 r (z + 1) (fun _ => by omega) (show z + 1 + (1 + 2 * (4 - d) + 0) ≤ 11 by omega) hr
    · obtain ⟨l1, l2, p1, h1, h2, rfl⟩ := sp_inv2 h
      refine ⟨J 1 4 l1 l2 p p1 p' (by decide) (by decide) h1 h2, fun r z _ hz hr => ?_⟩
      have hz' : z + (1 + 2 * (4 - d) + 2) ≤ 11 := hz
      rw [if_pos (by decide)] at hr
      rw [List.append_assoc]
      refine (ih 1 d p l1 p1 (by decide) hd h1).2 (l2 ++ r) z (fun h => by omega) (show z + (1 + 2 * (4 - d) + 1) ≤ 11 by omega) ?_
      rw [if_pos (by decide)]
      exact (ih 4 d p1 l2 p' (by decide) hd h2).2 r (z + 1) (fun _ => by omega) (show z + 1 + (1 + 2 * (4 - d) + 1) ≤ 11 by omega) hr
    · rcases sp_inv3 h with rfl | ⟨l1, l2, p1, h1, h2, rfl⟩
      · exact ⟨fun t ht => absurd ht (List.not_mem_nil), fun r z _ _ hr => hr⟩
      · refine ⟨fun t ht => ?_, fun r z h1z hz hr => ?_⟩
        · rcases List.mem_append.mp ht with ht | ht
          · rcases List.mem_append.mp ht with ht | ht
            · exact (ih 0 d (p + 1) l1 p1 (by decide) hd h1).1 t ht
            · rw [List.mem_singleton.mp ht]; exact ⟨by decide, fun z => absurd z (by decide)⟩
          · exact (ih 3 d p1 l2 p' (by decide) hd h2).1 t ht
        · have hz' : z + (1 + 2 * (4 - d) + 0) ≤ 11 := hz
          rw [if_neg (by decide)] at hr
          rw [List.append_assoc, List.append_assoc]
          refine (ih 0 d (p + 1) l1 p1 (by decide) hd h1).2 ([6001] ++ (l2 ++ r)) z (fun h => by omega) (show z + (1 + 2 * (4 - d) + 0) ≤ 11 by omega) ?_
          rw [if_pos (by decide)]
          show (z + 1 ≤ 11) ∧ sp_okd 11 (l2 ++ r) (if 6001 < 6000 then z + 1 + 1 else if 6001 = 6000 then z + 1 else z + 1 - 1)
          rw [if_neg (by decide), if_neg (by decide)]
          exact ⟨by omega, (ih 3 d p1 l2 p' (by decide) hd h2).2 r z h1z (show z + (1 + 2 * (4 - d) + 0) ≤ 11 by omega) (by rw [if_neg (by decide)]; exact hr)⟩
    · rcases sp_inv4 h with rfl | ⟨l1, l2, p1, h1, h2, rfl⟩
      · exact ⟨fun t ht => absurd ht (List.not_mem_nil), fun r z _ _ hr => hr⟩
      · refine ⟨fun t ht => ?_, fun r z h1z hz hr => ?_⟩
        · rcases List.mem_append.mp ht with ht | ht
          · rcases List.mem_append.mp ht with ht | ht
            · exact (ih 1 d (p + 1) l1 p1 (by decide) hd h1).1 t ht
            · rw [List.mem_singleton.mp ht]; exact ⟨by decide, fun z => absurd z (by decide)⟩
          · exact (ih 4 d p1 l2 p' (by decide) hd h2).1 t ht
        · have hz' : z + (1 + 2 * (4 - d) + 1) ≤ 11 := hz
          rw [if_neg (by decide)] at hr
          rw [List.append_assoc, List.append_assoc]
          refine (ih 1 d (p + 1) l1 p1 (by decide) hd h1).2 ([6002] ++ (l2 ++ r)) z (fun h => by omega) (show z + (1 + 2 * (4 - d) + 1) ≤ 11 by omega) ?_
          rw [if_pos (by decide)]
          show (z + 1 ≤ 11) ∧ sp_okd 11 (l2 ++ r) (if 6002 < 6000 then z + 1 + 1 else if 6002 = 6000 then z + 1 else z + 1 - 1)
          rw [if_neg (by decide), if_neg (by decide)]
          exact ⟨by omega, (ih 4 d p1 l2 p' (by decide) hd h2).2 r z h1z (show z + (1 + 2 * (4 - d) + 1) ≤ 11 by omega) (by rw [if_neg (by decide)]; exact hr)⟩

theorem sp_cla_g {T : Nat → Nat} {n p p' : Nat} {c : sp_Cl} (hp : p ≤ n) (h : sp_cla T n p = (some c, p')) : tc_gc c := by
  obtain ⟨w, d, l⟩ := c
  have hb := sp_cla_b hp h
  refine ⟨hb.2.2.2.1, hb.2.2.2.2.1, fun hw => ⟨hb.2.2.2.2.2.1 hw, ?_⟩⟩
  have hw' : w ≤ 1 := hw
  rw [sp_cla] at h
  cases hh : sp_hd T n p with
  | mk b p1 =>
    cases b with
    | false => rw [hh] at h; cases h
    | true =>
      rw [hh] at h
      cases hn : sp_num T n p1 with
      | mk a p2 =>
        cases a with
        | none => simp only [hn] at h; cases h
        | some e =>
          simp only [hn] at h
          by_cases h3 : 2 ≤ sp_wd T n p
          · rw [if_pos h3] at h; cases h; omega
          · rw [if_neg h3] at h
            by_cases h4 : sp_is T n p2 32
            · rw [if_pos h4] at h
              cases hE : sp_E T n (p2 + 1) with
              | mk u p3 =>
                cases u with
                | none => simp only [hE] at h; cases h
                | some v =>
                  simp only [hE] at h
                  cases h
                  have := sp_P_k 403 2 0 (p2 + 1) l p' (by decide) (by decide) hE
                  refine ⟨?_, this.1⟩
                  have h2 := this.2 [] 0 (fun h => by omega) (by decide) (show (1 : Nat) ≤ 11 by decide)
                  rw [List.append_nil] at h2
                  exact h2
            · rw [if_neg h4] at h; cases h
theorem sp_txt_g {T : Nat → Nat} {n : Nat} : ∀ (q p p' : Nat) (cl : List sp_Cl), p ≤ n → sp_txt T n q p = (some cl, p') → cl.length ≤ q ∧ (tc_codes cl).length + p ≤ n ∧ ∀ c, c ∈ cl → tc_gc c := by
  intro q
  induction q with
  | zero => intro p p' cl _ h; cases h
  | succ q ih =>
    intro p p' cl hp h
    rw [sp_txt] at h
    cases hc : sp_cla T n p with
    | mk a b =>
      cases a with
      | none => rw [hc] at h; cases h
      | some c =>
        rw [hc] at h
        have hg := sp_cla_g hp hc
        have hl : (tc_cc c).length + p ≤ b := cc_len hp hc
        have hbn : b ≤ n := (sp_cla_b hp hc).2.1
        by_cases hn : b = n
        · simp only [if_pos hn] at h
          cases h
          refine ⟨by rw [List.length_singleton]; omega, ?_, fun c' h' => by rw [List.mem_singleton.mp h']; exact hg⟩
          rw [show tc_codes [c] = tc_cc c ++ [] from rfl, List.append_nil]
          omega
        · simp only [if_neg hn] at h
          by_cases hz : q = 0 ∨ ¬ sp_is T n b 59
          · rw [if_pos hz] at h; cases h
          · rw [if_neg hz] at h
            have hs : sp_is T n b 59 := Decidable.of_not_not (fun y => hz (Or.inr y))
            cases hr : sp_txt T n q (b + 1) with
            | mk u v =>
              cases u with
              | none => simp only [hr] at h; cases h
              | some cs =>
                simp only [hr] at h
                cases h
                have H := ih (b + 1) p' cs hs.1 hr
                refine ⟨by rw [List.length_cons]; omega, ?_, fun c' h' => ?_⟩
                · rw [show tc_codes (c :: cs) = tc_cc c ++ tc_codes cs from rfl, List.length_append]
                  omega
                · rcases List.mem_cons.mp h' with rfl | h'
                  · exact hg
                  · exact H.2.2 c' h'
theorem sp_txt_gd {T : Nat → Nat} {n p' : Nat} {cl : List sp_Cl} (hn : n ≤ 100) (h : sp_txt T n 10 0 = (some cl, p')) : tc_gd cl := by
  have H := sp_txt_g 10 0 p' cl (Nat.zero_le _) h
  exact ⟨H.1, by omega, H.2.2⟩

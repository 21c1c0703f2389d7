/-! THE TWO SIDES' PLAIN FUNCTIONS ARE THE SAME -/
section JF
variable {S S2 : sp_St} {t0 b r : Int32} {j n : Nat} {f g u w : Nat → Int32}
theorem jf_many (h : sp_se S S2) (hf : sp_he f g) (hu : sp_he u w) : sp_many S t0 f u n b r j = sp_many S2 t0 g w n b r j := congrArg Prod.fst (sp_lay_x h hf hu)
theorem jf_ups (h : sp_se S S2) (hf : sp_he f g) (hu : sp_he u w) : sp_ups S t0 f u n b r j = sp_ups S2 t0 g w n b r j := congrArg (fun z => z.2.1) (sp_lay_x h hf hu)
theorem jf_lat (h : sp_se S S2) (hf : sp_he f g) (hu : sp_he u w) : sp_lat S t0 f u n b r j = sp_lat S2 t0 g w n b r j := congrArg (fun z => z.2.2.1) (sp_lay_x h hf hu)
theorem jf_drp (h : sp_se S S2) (hf : sp_he f g) (hu : sp_he u w) : sp_drp S t0 f u n b r j = sp_drp S2 t0 g w n b r j := congrArg (fun z => z.2.2.2) (sp_lay_x h hf hu)
theorem jf_go_m {c : Int32} : ∀ (q p : Nat) (t : Int32) (h f : Nat → Int32) (m : Nat), (sp_go S c q p t h f).1 = some m → ∃ i, p ≤ i ∧ i < p + q ∧ S.2.2.2.1 i = m := by
  intro q
  induction q with
  | zero => intro p t h f m e; cases e
  | succ q ih =>
    intro p t h f m e
    by_cases c1 : t < f (S.2.2.2.1 p)
    · rw [sp_go_f c1] at e
      exact ⟨p, Nat.le_refl _, by omega, Option.some.inj e⟩
    · by_cases c2 : S.1 (S.2.2.2.1 p) = 5 ∧ (h (S.2.2.2.1 p) + 1) - (h (S.2.2.2.1 p) + 1) / (S.2.1 (S.2.2.2.1 p) + 2) * (S.2.1 (S.2.2.2.1 p) + 2) = 0
      · rw [sp_go_l c1 c2] at e
        exact ⟨p, Nat.le_refl _, by omega, Option.some.inj e⟩
      · rw [sp_go_s c1 c2] at e
        obtain ⟨i, h1, h2, h3⟩ := ih (p + 1) _ _ _ m e
        exact ⟨i, by omega, by omega, h3⟩
theorem jf_ly0 {x : Nat} (hx : ∀ p, p < S.2.2.2.2.1 → S.2.2.2.1 p ≠ x) : ∀ (q k : Nat) (z : sp_LS), z.2.2.2.2.2.2 x = 0 → (sp_ly S t0 b r j q k z).2.2.2.2.2.2 x = 0 := by
  intro q
  induction q with
  | zero => intro k z hz; exact hz
  | succ q ih =>
    intro k z hz
    refine ih (k + 1) _ ?_
    unfold sp_l1
    cases hr : (sp_throw S 2000000000 z.1 z.2.1 z.2.2.1).1 with
    | none => exact hz
    | some m =>
      obtain ⟨i, -, h2, h3⟩ := jf_go_m _ _ _ _ _ m hr
      show (if x = m then _ else z.2.2.2.2.2.2 x) = 0
      rw [if_neg (fun e => hx i (by omega) (h3.trans e.symm))]
      exact hz
theorem jf_drp0 {x : Nat} (hx : ∀ p, p < S.2.2.2.2.1 → S.2.2.2.1 p ≠ x) : sp_drp S t0 f u n b r j x = 0 := jf_ly0 hx n 0 _ rfl
end JF
theorem jf_clu {f : Nat → Int32} : ∀ (q m : Nat) (w most : Int32), m + q ≤ 6 → ((w = -5 ∧ most = 0) ∨ ∃ a, a < 6 ∧ w = nI a ∧ most = f a ∧ 0 < f a) → sp_clu f q m w most = sp_md f q m w := by
  intro q
  induction q with
  | zero => intro m w most _ _; rfl
  | succ q ih =>
    intro m w most hm hw
    rw [sp_clu, sp_md]
    by_cases c : most < f m
    · have c2 : 0 < f m ∧ (w < 0 ∨ f w.toNatClampNeg < f m) := by
        rcases hw with ⟨rfl, rfl⟩ | ⟨a, ha, rfl, rfl, h0⟩
        · exact ⟨c, Or.inl (by decide)⟩
        · exact ⟨Int32.lt_trans h0 c, Or.inr (by rw [nI_clamp (by omega)]; exact c)⟩
      rw [if_pos c, if_pos c2]
      exact ih (m + 1) _ _ (by omega) (Or.inr ⟨m, by omega, rfl, rfl, c2.1⟩)
    · have c2 : ¬ (0 < f m ∧ (w < 0 ∨ f w.toNatClampNeg < f m)) := by
        rintro ⟨h1, h2⟩
        rcases hw with ⟨rfl, rfl⟩ | ⟨a, ha, rfl, rfl, h0⟩
        · exact c h1
        · rcases h2 with h2 | h2
          · exact nI_pos (by omega) h2
          · rw [nI_clamp (by omega)] at h2; exact c h2
      rw [if_neg c, if_neg c2]
      exact ih (m + 1) _ _ (by omega) hw
theorem jf_clu_x {f g : Nat → Int32} : ∀ (q m : Nat) (w most : Int32), (∀ a, m ≤ a → a < m + q → f a = g a) → sp_clu f q m w most = sp_clu g q m w most := by
  intro q
  induction q with
  | zero => intro m w most _; rfl
  | succ q ih =>
    intro m w most h
    rw [sp_clu, sp_clu, h m (Nat.le_refl _) (by omega), ih (m + 1) _ _ (fun a h1 h2 => h a (by omega) (by omega)), ih (m + 1) _ _ (fun a h1 h2 => h a (by omega) (by omega))]
theorem jf_md_0 {f : Nat → Int32} : ∀ (e m : Nat) (w : Int32), (∀ a, m ≤ a → f a = 0) → sp_md f e m w = w := by
  intro e
  induction e with
  | zero => intro m w _; rfl
  | succ e ih =>
    intro m w h
    rw [sp_md, if_neg (fun z => by rw [h m (Nat.le_refl _)] at z; exact absurd z.1 (by decide))]
    exact ih (m + 1) w (fun a ha => h a (by omega))
theorem jf_md_n {f : Nat → Int32} : ∀ (q e m : Nat) (w : Int32), (∀ a, m + q ≤ a → f a = 0) → sp_md f (q + e) m w = sp_md f q m w := by
  intro q
  induction q with
  | zero => intro e m w h; rw [Nat.zero_add]; exact jf_md_0 e m w h
  | succ q ih =>
    intro e m w h
    rw [show q + 1 + e = (q + e) + 1 by omega, sp_md, sp_md, ih e (m + 1) _ (fun a ha => h a (by omega)), ih e (m + 1) _ (fun a ha => h a (by omega))]
theorem jf_md_r {f : Nat → Int32} : ∀ (q m : Nat) (w : Int32), sp_md f q m w = w ∨ ∃ a, a < m + q ∧ sp_md f q m w = nI a := by
  intro q
  induction q with
  | zero => intro m w; exact Or.inl rfl
  | succ q ih =>
    intro m w
    rw [sp_md]
    split
    · rcases ih (m + 1) (nI m) with h | ⟨a, h1, h2⟩
      · exact Or.inr ⟨m, by omega, h⟩
      · exact Or.inr ⟨a, by omega, h2⟩
    · rcases ih (m + 1) w with h | ⟨a, h1, h2⟩
      · exact Or.inl h
      · exact Or.inr ⟨a, by omega, h2⟩
/-- who lets most fall, and how many -/
theorem jf_on {f d : Nat → Int32} {n : Nat} (hn : n ≤ 6) (hd : ∀ q, q < 6 → d q = f q) (h0 : ∀ a, n ≤ a → f a = 0) : sp_clu d 6 0 (-5) 0 = sp_md f n 0 (-5) ∧ (¬ sp_md f n 0 (-5) < 0 → d (sp_md f n 0 (-5)).toNatClampNeg = f (sp_md f n 0 (-5)).toNatClampNeg) := by
  constructor
  · rw [jf_clu_x (g := f) 6 0 (-5) 0 (fun a _ h => hd a (by omega)), jf_clu 6 0 (-5) 0 (by decide) (Or.inl ⟨rfl, rfl⟩)]
    have h := jf_md_n (f := f) n (6 - n) 0 (-5) (fun a ha => h0 a (by omega))
    rw [show n + (6 - n) = 6 by omega] at h
    exact h
  · intro hp
    rcases jf_md_r (f := f) n 0 (-5) with h | ⟨a, h1, h2⟩
    · exact absurd (by rw [h]; decide) hp
    · rw [h2, nI_clamp (by omega)]
      exact hd a (by omega)
theorem jf_best {g l : Int32 → Int32} {a : Nat} (ha : a < 1000) (h : g (nI 1) = nI a) : sp_best g l 99 1 (1, -1, 0) = sp_best g l 99 1 (0, -1, 0) := by
  have c : ∀ x : Int32, ¬ (g (nI 1) < ((x, -1, 0) : Int32 × Int32 × Int32).2.1 ∨ (g (nI 1) = ((x, -1, 0) : Int32 × Int32 × Int32).2.1 ∧ ((x, -1, 0) : Int32 × Int32 × Int32).2.2 ≤ l (nI 1))) := by
    intro x z
    rw [h] at z
    rcases z with z | ⟨z, -⟩
    · exact Int32.lt_irrefl (Int32.lt_trans z (Int32.lt_of_lt_of_le (show (-1 : Int32) < 0 by decide) (nI_pos' (by omega))))
    · have h2 := nI_pos (n := a) (by omega)
      rw [z] at h2
      exact h2 (show (-1 : Int32) < 0 by decide)
  have e : ∀ x : Int32, sp_best g l (98 + 1) 1 (x, -1, 0) = sp_best g l 98 2 (nI 1, g (nI 1), l (nI 1)) := fun x => by rw [sp_best, if_neg (c x)]
  exact (e 1).trans (e 0).symm
theorem jf_slc {S : sp_St} {held : Nat → Int32} {n : Nat} (hh : ∀ p, p < n → 0 < sp_hold S held p ∧ S.2.2.2.1 p < 6) : ∀ (q p : Nat) (w most : Int32), p + q = n → ((w = -5 ∧ most = 0) ∨ 0 ≤ w) → sp_slc S held q p w most = sp_slw S held q p w most := by
  intro q
  induction q with
  | zero => intro p w most _ _; rfl
  | succ q ih =>
    intro p w most hp hw
    obtain ⟨h0, h6⟩ := hh p (by omega)
    rw [sp_slc, sp_slw]
    by_cases c : most < sp_hold S held p
    · have c2 : ¬ (0 ≤ w ∧ sp_hold S held p ≤ most) := fun z => Int32.lt_irrefl (Int32.lt_of_lt_of_le c z.2)
      rw [if_pos c, if_neg c2]
      exact ih (p + 1) _ _ (by omega) (Or.inr (nI_pos' (by omega)))
    · have c2 : 0 ≤ w ∧ sp_hold S held p ≤ most := by
        rcases hw with ⟨rfl, rfl⟩ | h
        · exact absurd h0 c
        · exact ⟨h, Int32.not_lt.mp c⟩
      rw [if_neg c, if_pos c2]
      exact ih (p + 1) _ _ (by omega) (Or.inr c2.1)
theorem jf_ord_x {g g2 : Nat → Int32} : ∀ (q k : Nat) (z : Int32 × Nat), (∀ i, k ≤ i → i < k + q → g i = g2 i) → sp_ord g q k z = sp_ord g2 q k z := by
  intro q
  induction q with
  | zero => intro k z _; rfl
  | succ q ih =>
    intro k z h
    rw [sp_ord, sp_ord, h k (Nat.le_refl _) (by omega), ih (k + 1) _ (fun i h1 h2 => h i (by omega) (by omega)), ih (k + 1) _ (fun i h1 h2 => h i (by omega) (by omega))]
theorem jf_ord {g : Nat → Int32} {q a : Nat} (ha : a ≤ 100) (h : sp_hu (g 0) = nI a) : sp_ord g (q + 1) 0 (nI 100, 0) = sp_ord g (q + 1) 0 (1000, 0) := by
  rw [sp_ord, sp_ord, h]
  have c2 : ¬ ((1000, 0) : Int32 × Nat).1 ≤ nI a := nI_ge (b := 1000) (by omega) (by decide)
  rw [if_neg c2]
  by_cases c : ((nI 100, 0) : Int32 × Nat).1 ≤ nI a
  · rw [if_pos c]
    have : a = 100 := Nat.le_antisymm ha ((nI_leI (by decide) (by omega)).mp c)
    rw [this]
  · rw [if_neg c]
theorem jf_ord_b {g : Nat → Int32} : ∀ (q k : Nat) (z : Int32 × Nat), (∃ a, a ≤ 100 ∧ z.1 = nI a) → (∀ i, k ≤ i → i < k + q → ∃ a, a ≤ 100 ∧ sp_hu (g i) = nI a) → ∃ a, a ≤ 100 ∧ (sp_ord g q k z).1 = nI a := by
  intro q
  induction q with
  | zero => intro k z hz _; exact hz
  | succ q ih =>
    intro k z hz h
    rw [sp_ord]
    split
    · exact ih (k + 1) z hz (fun i h1 h2 => h i (by omega) (by omega))
    · exact ih (k + 1) _ (h k (Nat.le_refl _) (by omega)) (fun i h1 h2 => h i (by omega) (by omega))
theorem jf_dn {f g : Nat → Int32} : ∀ (q k : Nat) (z : Int32), (∀ i, k ≤ i → i < k + q → f i = g i) → sp_dn f q k z = sp_dn g q k z := by
  intro q
  induction q with
  | zero => intro k z _; rfl
  | succ q ih =>
    intro k z h
    rw [sp_dn, sp_dn, h k (Nat.le_refl _) (by omega)]
    exact ih (k + 1) _ (fun i h1 h2 => h i (by omega) (by omega))
theorem jf_jdg {f f2 : Nat → Int32} {it it2 : Nat → Int64} {so so2 len i : Int32} (hs : so < 0 ↔ so2 < 0) : ∀ (q m : Nat), (∀ a, m ≤ a → a < m + q → f a = f2 a ∧ (¬ (so < 0 ∨ i < 0 ∨ len - nI a - 1 < i) → it a = it2 a)) → sp_jdg f it so len i q m = sp_jdg f2 it2 so2 len i q m := by
  intro q
  induction q with
  | zero => intro m _; rfl
  | succ q ih =>
    intro m h
    obtain ⟨h1, h2⟩ := h m (Nat.le_refl _) (by omega)
    rw [sp_jdg, sp_jdg]
    by_cases c : so < 0 ∨ i < 0 ∨ len - nI m - 1 < i
    · rw [if_pos c, if_pos (c.imp hs.mp id)]
    · have c2 : ¬ (so2 < 0 ∨ i < 0 ∨ len - nI m - 1 < i) := fun z => c (z.imp hs.mpr id)
      rw [if_neg c, if_neg c2, h1, h2 c, ih (m + 1) (fun a g1 g2 => h a (by omega) (by omega))]
/-- a throw with HELD up to 9999, and one that is cut behind it -/
theorem jf_go_cap {S : sp_St} {n : Nat} (hn : S.2.2.2.2.1 = n) (hl : ∀ p, p < n → S.2.2.2.1 p < 6) (hi : ∀ p p2, p < n → p2 < n → S.2.2.2.1 p = S.2.2.2.1 p2 → p = p2) : ∀ (q p : Nat) (t : Int32) (f g u : Nat → Int32), p + q = n → (∀ m, m < 6 → ∃ x, x ≤ 10000 ∧ f m = nI x) → (∀ m, m < 6 → (if 9999 < f m then 9999 else f m) = g m) → (∀ i, p ≤ i → i < n → f (S.2.2.2.1 i) = g (S.2.2.2.1 i) ∧ ∃ x, x ≤ 9999 ∧ g (S.2.2.2.1 i) = nI x) → (sp_go S 2000000000 q p t f u).1 = (sp_go S 9999 q p t g u).1 ∧ (sp_go S 2000000000 q p t f u).2.1 = (sp_go S 9999 q p t g u).2.1 ∧ (∀ m, m < 6 → (if 9999 < (sp_go S 2000000000 q p t f u).2.2.1 m then 9999 else (sp_go S 2000000000 q p t f u).2.2.1 m) = (sp_go S 9999 q p t g u).2.2.1 m) ∧ (sp_go S 2000000000 q p t f u).2.2.2 = (sp_go S 9999 q p t g u).2.2.2 := by
  have inc : ∀ (f g : Nat → Int32) (m : Nat), m < 6 → (∀ m, m < 6 → ∃ x, x ≤ 10000 ∧ f m = nI x) → (∀ m, m < 6 → (if 9999 < f m then 9999 else f m) = g m) → f m = g m → (∃ x, x ≤ 9999 ∧ g m = nI x) → (∀ a, a < 6 → ∃ x, x ≤ 10000 ∧ upd f m (sp_inc 2000000000 (f m)) a = nI x) ∧ (∀ a, a < 6 → (if 9999 < upd f m (sp_inc 2000000000 (f m)) a then 9999 else upd f m (sp_inc 2000000000 (f m)) a) = upd g m (sp_inc 9999 (g m)) a) := by
    intro f g m hm h1 h2 h3 ⟨x, hx, ex⟩
    have e1 : sp_inc 2000000000 (f m) = nI (x + 1) := by
      rw [h3, ex]
      unfold sp_inc
      rw [if_pos (show nI x < 2000000000 from nI_lt (b := 2000000000) (by omega) (by decide)), nI_1]
    have e2 : sp_inc 9999 (g m) = if 9999 < nI (x + 1) then 9999 else nI (x + 1) := by
      rw [ex]
      unfold sp_inc
      by_cases c : x = 9999
      · subst c; decide
      · rw [if_pos (show nI x < 9999 from nI_lt (b := 9999) (by omega) (by decide)), if_neg (show ¬ (9999 : Int32) < nI (x + 1) from nI_nlt (a := 9999) (by omega) (by decide)), nI_1]
    constructor
    · intro a ha
      show ∃ y, y ≤ 10000 ∧ (if a = m then _ else f a) = nI y
      by_cases c : a = m
      · rw [if_pos c, e1]; exact ⟨x + 1, by omega, rfl⟩
      · rw [if_neg c]; exact h1 a ha
    · intro a ha
      show (if 9999 < (if a = m then _ else f a) then 9999 else (if a = m then _ else f a)) = (if a = m then _ else g a)
      by_cases c : a = m
      · rw [if_pos c, if_pos c, e1, e2]
      · rw [if_neg c, if_neg c]; exact h2 a ha
  intro q
  induction q with
  | zero => intro p t f g u _ _ h2 _; exact ⟨rfl, rfl, h2, rfl⟩
  | succ q ih =>
    intro p t f g u hp h1 h2 h3
    obtain ⟨e, x, hx, ex⟩ := h3 p (Nat.le_refl _) (by omega)
    have hl6 := hl p (by omega)
    by_cases c1 : t < u (S.2.2.2.1 p)
    · rw [sp_go_f c1, sp_go_f c1]
      exact ⟨rfl, rfl, h2, rfl⟩
    · obtain ⟨i1, i2⟩ := inc f g (S.2.2.2.1 p) hl6 h1 h2 e ⟨x, hx, ex⟩
      by_cases c2 : S.1 (S.2.2.2.1 p) = 5 ∧ (f (S.2.2.2.1 p) + 1) - (f (S.2.2.2.1 p) + 1) / (S.2.1 (S.2.2.2.1 p) + 2) * (S.2.1 (S.2.2.2.1 p) + 2) = 0
      · have c2' := c2
        rw [e] at c2'
        rw [sp_go_l c1 c2, sp_go_l c1 c2']
        exact ⟨rfl, rfl, i2, rfl⟩
      · have c2' := c2
        rw [e] at c2'
        have eh : sp_hold S f p = sp_hold S g p := by
          unfold sp_hold
          rw [fc_sp, fc_sp, e]
        rw [sp_go_s c1 c2, sp_go_s c1 c2', eh]
        refine ih (p + 1) _ _ _ _ (by omega) i1 i2 (fun i hi1 hi2 => ?_)
        have hne : S.2.2.2.1 i ≠ S.2.2.2.1 p := fun z => by have := hi i p hi2 (by omega) z; omega
        obtain ⟨g1, g2⟩ := h3 i (by omega) hi2
        show (if S.2.2.2.1 i = S.2.2.2.1 p then _ else f (S.2.2.2.1 i)) = (if S.2.2.2.1 i = S.2.2.2.1 p then _ else g (S.2.2.2.1 i)) ∧ ∃ x, x ≤ 9999 ∧ (if S.2.2.2.1 i = S.2.2.2.1 p then _ else g (S.2.2.2.1 i)) = nI x
        rw [if_neg hne, if_neg hne]
        exact ⟨g1, g2⟩
/-- rows of four and fewer: their places -/
theorem jf_pm : ∀ n, n < 5 → ∀ k, k < sp_fac n → ∀ p, p < n → (sp_pm n k).getD p 0 < n := by decide +kernel
/-- every man has a first place -/
theorem jf_first {f : Nat → Int32} {x : Int32} : ∀ (a : Nat), f a = x → ∃ b, b ≤ a ∧ f b = x ∧ ∀ q, q < b → f q ≠ x := by
  intro a
  induction a using Nat.strongRecOn with
  | ind a ih =>
    intro h
    by_cases c : ∃ q, q < a ∧ f q = x
    · obtain ⟨q, hq, e⟩ := c
      obtain ⟨b, h1, h2, h3⟩ := ih q hq e
      exact ⟨b, by omega, h2, h3⟩
    · exact ⟨a, Nat.le_refl _, h, fun q hq e => c ⟨q, hq, e⟩⟩

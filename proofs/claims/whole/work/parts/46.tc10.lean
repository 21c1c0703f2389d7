theorem sp_one_sub : ∀ pc, pc < 1024 → ∀ a, a < 5 → sp_one (nI pc - nI a) = nI (if pc - a < 1 then 1 else pc - a) := by decide +kernel
theorem sp_one_n {y : Nat} (h : y < 2 ^ 31) : sp_one (nI y) = nI (if y < 1 then 1 else y) := by
  unfold sp_one
  by_cases h1 : y < 1
  · rw [if_pos h1, if_pos (show nI y < 1 from (nI_ltI (b := 1) h (by decide)).mpr h1)]
    rfl
  · rw [if_neg h1, if_neg (show ¬ nI y < 1 from fun z => h1 ((nI_ltI (b := 1) h (by decide)).mp z))]
theorem sp_holds_b {k : Int32} {vv hh x pc : Nat} (hv : vv ≤ 9) (hh0 : hh ≤ 40000) (hx : x ≤ 9) (h1 : 1 ≤ pc) (h2 : pc < 1024) : ∃ y, 1 ≤ y ∧ y ≤ 7000 ∧ sp_holds k (nI vv) (nI hh) (nI x) (nI pc) = nI y := by
  have hs : ∃ y, 1 ≤ y ∧ y ≤ 1024 ∧ sp_strong (nI vv) (nI pc) = nI y := by
    unfold sp_strong
    rw [show nI vv / 2 = nI (vv / 2) from mo_div 2 (by omega) (by decide) (by decide), sp_one_sub pc h2 (vv / 2) (by omega)]
    exact ⟨_, by split <;> omega, by split <;> omega, rfl⟩
  unfold sp_holds
  split
  · obtain ⟨y, a, b, c⟩ := hs; exact ⟨y, a, by omega, c⟩
  · split
    · exact ⟨pc + 2, by omega, by omega, nI_add pc 2⟩
    · split
      · rw [show nI hh / 8 = nI (hh / 8) from mo_div 8 (by omega) (by decide) (by decide), nI_add]
        exact ⟨_, by omega, by omega, rfl⟩
      · split
        · obtain ⟨y, a, b, c⟩ := hs
          rw [c, show nI y / 2 = nI (y / 2) from mo_div 2 (by omega) (by decide) (by decide), sp_one_n (by omega)]
          exact ⟨_, by split <;> omega, by split <;> omega, rfl⟩
        · split
          · rw [show nI hh / 8 = nI (hh / 8) from mo_div 8 (by omega) (by decide) (by decide), nI_add, nI_add]
            exact ⟨_, by omega, by omega, rfl⟩
          · exact ⟨pc, by omega, by omega, rfl⟩
theorem sp_last_b {w : Nat} : ∀ (cl : List sp_Cl) (d : Nat), (∀ c, c ∈ cl → tc_gc c) → d < 100 → ∃ x, x < 100 ∧ sp_last w cl (nI d) = nI x := by
  intro cl
  induction cl with
  | nil => intro d _ h; exact ⟨d, h, rfl⟩
  | cons c cl ih =>
    intro d hg h
    show ∃ x, x < 100 ∧ sp_last w cl (if c.1 = w then nI c.2.1 else nI d) = nI x
    split
    · exact ih c.2.1 (fun y hy => hg y (List.mem_cons_of_mem _ hy)) (hg c List.mem_cons_self).2.1
    · exact ih d (fun y hy => hg y (List.mem_cons_of_mem _ hy)) h
/-- what holds of a chain for its times to stay small -/
def sp_wb (S : sp_St) (held : Nat → Int32) (B : Nat) : Prop := tc_gd S.2.2.2.2.2 ∧ S.2.2.2.2.1 ≤ 6 ∧ (∀ p, p < S.2.2.2.2.1 → S.2.2.2.1 p < 6 ∧ ∃ vv, vv ≤ 9 ∧ S.2.1 (S.2.2.2.1 p) = nI vv) ∧ (∀ i, i < 24 → ∃ x, x ≤ 9 ∧ S.2.2.1 i = nI x) ∧ ∀ m, m < 6 → ∃ hh, hh ≤ B ∧ held m = nI hh
theorem sp_hold_b {S : sp_St} {held : Nat → Int32} {B p : Nat} (h : sp_wb S held B) (hB : B ≤ 40000) (hp : p < S.2.2.2.2.1) : ∃ y, 1 ≤ y ∧ y ≤ 7000 ∧ sp_hold S held p = nI y := by
  obtain ⟨h1, h2, h3, h4, h5⟩ := h
  obtain ⟨hl, vv, hv, ev⟩ := h3 p hp
  obtain ⟨hh, hhB, eh⟩ := h5 _ hl
  obtain ⟨pc, p1, p2, ep⟩ := sp_pace_b (f := sp_fact S.1 S.2.1 held (S.2.2.2.1 p) p) h1
  unfold sp_hold
  rw [ep, ev, eh, nI_clamp (by omega)]
  obtain ⟨x, hx, ex⟩ := h4 (4 * S.2.2.2.1 p + hh % 4) (by omega)
  rw [ex]
  exact sp_holds_b hv (by omega) hx p1 p2
theorem sp_wb.inc {S : sp_St} {held : Nat → Int32} {B : Nat} (h : sp_wb S held B) (hB : B < 2000000000) (m : Nat) (hm : m < 6) : sp_wb S (upd held m (sp_inc 2000000000 (held m))) (B + 1) := by
  refine ⟨h.1, h.2.1, h.2.2.1, h.2.2.2.1, fun q hq => ?_⟩
  show ∃ hh, hh ≤ B + 1 ∧ (if q = m then sp_inc 2000000000 (held m) else held q) = nI hh
  by_cases e : q = m
  · obtain ⟨hh, a, b⟩ := h.2.2.2.2 m hm
    rw [if_pos e, b, sp_inc_s (by omega)]
    exact ⟨hh + 1, by omega, rfl⟩
  · obtain ⟨hh, a, b⟩ := h.2.2.2.2 q hq
    rw [if_neg e]
    exact ⟨hh, by omega, b⟩
/-- one that comes up takes a while; HELD grows by no more than there are places -/
theorem sp_go_b {S : sp_St} : ∀ (q p : Nat) (t : Int32) (held free : Nat → Int32) (B : Nat), sp_wb S held B → B + q ≤ 40000 → p + q = S.2.2.2.2.1 → (∀ m t2 h2 f2, sp_go S 2000000000 q p t held free = (m, t2, h2, f2) → (m = none → ∃ x, x ≤ 8000 * q ∧ t2 = t + nI x) ∧ (∀ a, m = some a → a < 6) ∧ sp_wb S h2 (B + q)) := by
  intro q
  induction q with
  | zero =>
    intro p t held free B hb _ _ m t2 h2 f2 h
    cases h
    exact ⟨fun _ => ⟨0, by omega, (Int32.add_zero t).symm⟩, fun a h => (by cases h), hb⟩
  | succ q ih =>
    intro p t held free B hb hB hpq m t2 h2 f2 h
    have hl := (hb.2.2.1 p (by omega)).1
    have mono : ∀ {held : Nat → Int32} {B C : Nat}, sp_wb S held B → B ≤ C → sp_wb S held C := fun h hc => ⟨h.1, h.2.1, h.2.2.1, h.2.2.2.1, fun m hm => by
      obtain ⟨hh, a, b⟩ := h.2.2.2.2 m hm
      exact ⟨hh, by omega, b⟩⟩
    by_cases c1 : t < free (S.2.2.2.1 p)
    · rw [sp_go_f c1] at h
      cases h
      exact ⟨fun z => (by cases z), fun a z => (by cases z; exact hl), mono hb (by omega)⟩
    · by_cases c2 : S.1 (S.2.2.2.1 p) = 5 ∧ (held (S.2.2.2.1 p) + 1) - (held (S.2.2.2.1 p) + 1) / (S.2.1 (S.2.2.2.1 p) + 2) * (S.2.1 (S.2.2.2.1 p) + 2) = 0
      · rw [sp_go_l c1 c2] at h
        cases h
        exact ⟨fun z => (by cases z), fun a z => (by cases z; exact hl), mono (hb.inc (by omega) _ hl) (by omega)⟩
      · rw [sp_go_s c1 c2] at h
        have hn := hb.2.1
        obtain ⟨y, y1, y2, ey⟩ := sp_hold_b hb (by omega) (show p < S.2.2.2.2.1 by omega)
        obtain ⟨x, hx, ex⟩ := sp_last_b (w := 2) S.2.2.2.2.2 5 hb.1.2.2 (by decide)
        obtain ⟨g1, g2, g3⟩ := ih (p + 1) _ _ _ (B + 1) (hb.inc (by omega) _ hl) (by omega) (by omega) m t2 h2 f2 h
        refine ⟨fun z => ?_, g2, mono g3 (by omega)⟩
        obtain ⟨x2, hx2, e2⟩ := g1 z
        refine ⟨y + x + x2, by omega, ?_⟩
        rw [e2, ey, show sp_rise S.2.2.2.2.2 = nI x from ex, nI_add, Int32.add_assoc, nI_add]
/-- the same for rows that are the same where it matters -/
def sp_se (S S2 : sp_St) : Prop := (∀ m, m < 6 → S.1 m = S2.1 m ∧ S.2.1 m = S2.2.1 m) ∧ (∀ i, i < 24 → S.2.2.1 i = S2.2.2.1 i) ∧ S.2.2.2.2 = S2.2.2.2.2 ∧ ∀ p, p < S.2.2.2.2.1 → S.2.2.2.1 p = S2.2.2.2.1 p ∧ S.2.2.2.1 p < 6
def sp_he (f g : Nat → Int32) : Prop := ∀ m, m < 6 → f m = g m
theorem sp_he.up {f g : Nat → Int32} (h : sp_he f g) (m : Nat) {x y : Int32} (e : x = y) : sp_he (upd f m x) (upd g m y) := fun q hq => by
  show (if q = m then x else f q) = if q = m then y else g q
  rw [e, h q hq]
theorem sp_hold_x {S S2 : sp_St} {f g : Nat → Int32} {p : Nat} (h : sp_se S S2) (hf : sp_he f g) (hp : p < S.2.2.2.2.1) : sp_hold S f p = sp_hold S2 g p := by
  obtain ⟨h1, h2, h3, h4⟩ := h
  obtain ⟨hl, hl6⟩ := h4 p hp
  unfold sp_hold
  rw [fc_sp, fc_sp, ← hl, ← (h1 _ hl6).1, ← (h1 _ hl6).2, ← hf _ hl6, ← h2 _ (by omega), ← h3]
theorem sp_go_x {S S2 : sp_St} {c : Int32} (h : sp_se S S2) : ∀ (q p : Nat) (t : Int32) (f g u w : Nat → Int32), sp_he f g → sp_he u w → p + q = S.2.2.2.2.1 → (sp_go S c q p t f u).1 = (sp_go S2 c q p t g w).1 ∧ (sp_go S c q p t f u).2.1 = (sp_go S2 c q p t g w).2.1 ∧ sp_he (sp_go S c q p t f u).2.2.1 (sp_go S2 c q p t g w).2.2.1 ∧ sp_he (sp_go S c q p t f u).2.2.2 (sp_go S2 c q p t g w).2.2.2 := by
  intro q
  induction q with
  | zero => intro p t f g u w hf hu _; exact ⟨rfl, rfl, hf, hu⟩
  | succ q ih =>
    intro p t f g u w hf hu hpq
    obtain ⟨hl, hl6⟩ := h.2.2.2 p (by omega)
    obtain ⟨k1, k2⟩ := h.1 _ hl6
    by_cases c1 : t < u (S.2.2.2.1 p)
    · have c1' : t < w (S2.2.2.2.1 p) := by rw [← hl, ← hu _ hl6]; exact c1
      rw [sp_go_f c1, sp_go_f c1']
      exact ⟨by rw [hl], rfl, hf, hu⟩
    · have c1' : ¬ t < w (S2.2.2.2.1 p) := by rw [← hl, ← hu _ hl6]; exact c1
      by_cases c2 : S.1 (S.2.2.2.1 p) = 5 ∧ (f (S.2.2.2.1 p) + 1) - (f (S.2.2.2.1 p) + 1) / (S.2.1 (S.2.2.2.1 p) + 2) * (S.2.1 (S.2.2.2.1 p) + 2) = 0
      · have c2' : S2.1 (S2.2.2.2.1 p) = 5 ∧ (g (S2.2.2.2.1 p) + 1) - (g (S2.2.2.2.1 p) + 1) / (S2.2.1 (S2.2.2.2.1 p) + 2) * (S2.2.1 (S2.2.2.2.1 p) + 2) = 0 := by rw [← hl, ← k1, ← k2, ← hf _ hl6]; exact c2
        rw [sp_go_l c1 c2, sp_go_l c1' c2']
        refine ⟨by rw [hl], rfl, ?_, hu⟩
        rw [← hl]
        exact hf.up _ (by rw [hf _ hl6])
      · have c2' : ¬ (S2.1 (S2.2.2.2.1 p) = 5 ∧ (g (S2.2.2.2.1 p) + 1) - (g (S2.2.2.2.1 p) + 1) / (S2.2.1 (S2.2.2.2.1 p) + 2) * (S2.2.1 (S2.2.2.2.1 p) + 2) = 0) := by rw [← hl, ← k1, ← k2, ← hf _ hl6]; exact c2
        rw [sp_go_s c1 c2, sp_go_s c1' c2', ← sp_hold_x h hf (by omega), ← h.2.2.1, ← hl]
        exact ih (p + 1) _ _ _ _ _ (hf.up _ (by rw [hf _ hl6])) (hu.up _ rfl) (by omega)
theorem sp_throw_x {S S2 : sp_St} {c t : Int32} {f g u w : Nat → Int32} (h : sp_se S S2) (hf : sp_he f g) (hu : sp_he u w) : (sp_throw S c t f u).1 = (sp_throw S2 c t g w).1 ∧ (sp_throw S c t f u).2.1 = (sp_throw S2 c t g w).2.1 ∧ sp_he (sp_throw S c t f u).2.2.1 (sp_throw S2 c t g w).2.2.1 ∧ sp_he (sp_throw S c t f u).2.2.2 (sp_throw S2 c t g w).2.2.2 := by
  unfold sp_throw
  rw [← h.2.2.1]
  exact sp_go_x h _ 0 _ f g u w hf hu (Nat.zero_add _)
def sp_ze (z z2 : sp_LS) : Prop := z.1 = z2.1 ∧ sp_he z.2.1 z2.2.1 ∧ sp_he z.2.2.1 z2.2.2.1 ∧ z.2.2.2 = z2.2.2.2
theorem sp_ly_x {S S2 : sp_St} {t0 b r : Int32} {j : Nat} (h : sp_se S S2) : ∀ (q k : Nat) (z z2 : sp_LS), sp_ze z z2 → sp_ze (sp_ly S t0 b r j q k z) (sp_ly S2 t0 b r j q k z2) := by
  intro q
  induction q with
  | zero => intro k z z2 hz; exact hz
  | succ q ih =>
    intro k z z2 hz
    refine ih (k + 1) _ _ ?_
    obtain ⟨h1, h2, h3, h4⟩ := hz
    obtain ⟨g1, g2, g3, g4⟩ := sp_throw_x (c := 2000000000) (t := z.1) h h2 h3
    unfold sp_l1
    rw [← h1, ← h4, ← g1, ← g2]
    exact ⟨rfl, g3, g4, rfl⟩
theorem sp_lay_x {S S2 : sp_St} {t0 b r : Int32} {j n : Nat} {f g u w d : Nat → Int32} (h : sp_se S S2) (hf : sp_he f g) (hu : sp_he u w) : (sp_lay S t0 f u d n b r j).2.2.2 = (sp_lay S2 t0 g w d n b r j).2.2.2 := (sp_ly_x h n 0 (t0, f, u, 0, 0, 0, d) (t0, g, w, 0, 0, 0, d) ⟨rfl, hf, hu, rfl⟩).2.2.2
/-- which came up, which fell, how many came up, of k -/
def fl_ok (k : Nat) (ups fell many : Int32) : Prop := ∃ u f mm : Nat, u < 2 ^ k ∧ f < 2 ^ k ∧ ups = nI u ∧ fell = nI f ∧ (∀ i, (u.testBit i ^^ f.testBit i) = decide (i < k)) ∧ many = nI mm ∧ mm ≤ k ∧ (f = 0 ↔ mm = k)
theorem fl_0 : fl_ok 0 0 0 0 := ⟨0, 0, 0, by decide, by decide, rfl, rfl, fun i => by simp, rfl, by decide, by decide⟩
theorem nI_or (a b : Nat) : nI a ||| nI b = nI (a ||| b) := by
  apply Int32.toBitVec_inj.mp
  show BitVec.ofNat 32 a ||| BitVec.ofNat 32 b = BitVec.ofNat 32 (a ||| b)
  exact BitVec.ofNat_or.symm
theorem nI_sh : ∀ k, k < 31 → (1 : Int32) <<< (nI k &&& 31) = nI (2 ^ k) := by decide +kernel
theorem or_new {u k : Nat} (h : u < 2 ^ k) : u ||| 2 ^ k < 2 ^ (k + 1) := Nat.or_lt_two_pow (by rw [Nat.pow_succ]; omega) (by rw [Nat.pow_succ]; have := Nat.two_pow_pos k; omega)
theorem tb_new {u f k i : Nat} (hu : u < 2 ^ k) (hf : f < 2 ^ k) (h : ∀ i, (u.testBit i ^^ f.testBit i) = decide (i < k)) : ((u ||| 2 ^ k).testBit i ^^ f.testBit i) = decide (i < k + 1) := by
  rw [Nat.testBit_or, Nat.testBit_two_pow]
  by_cases e : k = i
  · subst e
    rw [Nat.testBit_lt_two_pow hu, Nat.testBit_lt_two_pow hf]
    simp
  · rw [show decide (k = i) = false from decide_eq_false e, Bool.or_false, h i]
    by_cases hi : i < k
    · rw [decide_eq_true hi, decide_eq_true (show i < k + 1 by omega)]
    · rw [decide_eq_false hi, decide_eq_false (show ¬ i < k + 1 by omega)]
theorem fl_ok.up {k : Nat} {ups fell many : Int32} (h : fl_ok k ups fell many) (hk : k < 31) : fl_ok (k + 1) (ups ||| (1 <<< (nI k &&& 31))) fell (many + 1) := by
  obtain ⟨u, f, mm, h1, h2, rfl, rfl, h5, rfl, h7, h8⟩ := h
  refine ⟨u ||| 2 ^ k, f, mm + 1, or_new h1, by rw [Nat.pow_succ]; omega, by rw [nI_sh k hk, nI_or], rfl, fun i => tb_new h1 h2 h5, nI_1 mm, by omega, by omega⟩
theorem fl_ok.dn {k : Nat} {ups fell many : Int32} (h : fl_ok k ups fell many) (hk : k < 31) : fl_ok (k + 1) ups (fell ||| (1 <<< (nI k &&& 31))) many := by
  obtain ⟨u, f, mm, h1, h2, rfl, rfl, h5, rfl, h7, h8⟩ := h
  refine ⟨u, f ||| 2 ^ k, mm, by rw [Nat.pow_succ]; omega, or_new h2, rfl, by rw [nI_sh k hk, nI_or], fun i => by rw [Bool.xor_comm]; exact tb_new h2 h1 (fun i => by rw [Bool.xor_comm]; exact h5 i), rfl, by omega, ?_⟩
  refine ⟨fun z => ?_, fun z => by omega⟩
  have hp := Nat.two_pow_pos k
  have hle : 2 ^ k ≤ f ||| 2 ^ k := Nat.right_le_or
  omega

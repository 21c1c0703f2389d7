theorem sp_num_f {T : Nat → Nat} {n p : Nat} (hp : p ≤ n) : (sp_num T n p).2 ≤ n := by
  cases h : sp_num T n p with
  | mk a b =>
    cases a with
    | some d => exact (sp_num_b h).2.2
    | none =>
      unfold sp_num at h
      by_cases h1 : sp_dg T n p
      · rw [if_pos h1] at h
        by_cases h2 : sp_dg T n (p + 1)
        · rw [if_pos h2] at h; cases h
        · rw [if_neg h2] at h; cases h
      · rw [if_neg h1] at h; cases h; exact hp
theorem sp_test_f {T : Nat → Nat} {n p : Nat} (hp : p ≤ n) : (sp_test T n p).2 ≤ n := by
  unfold sp_test
  by_cases hl : p < n
  · rw [if_pos hl]
    cases sp_let (T p) with
    | none => exact hp
    | some f =>
      dsimp only
      by_cases h2 : p + 1 < n ∧ 60 ≤ T (p + 1) ∧ T (p + 1) ≤ 62
      · rw [if_pos h2]
        have hn := sp_num_f (T := T) (n := n) (p := p + 2) h2.1
        cases hr : sp_num T n (p + 2) with
        | mk a b =>
          rw [hr] at hn
          cases a <;> exact hn
      · rw [if_neg h2]
        exact hl
  · rw [if_neg hl]
    exact hp
theorem sp_P_f {T : Nat → Nat} {n : Nat} : ∀ (q m d p : Nat), p ≤ n → (sp_P T n q m d p).2 ≤ n := by
  intro q
  induction q with
  | zero => intro m d p hp; exact hp
  | succ q ih =>
    intro m d p hp
    have ii : ∀ (m d p : Nat) (a : Option (List Nat)) (b : Nat), p ≤ n → sp_P T n q m d p = (a, b) → b ≤ n := fun m d p a b hp h => by
      have := ih m d p hp
      rw [h] at this
      exact this
    rw [sp_P]
    by_cases m0 : m = 0
    · rw [if_pos m0]
      by_cases h33 : sp_is T n p 33
      · rw [if_pos h33]
        by_cases hd : 4 ≤ d
        · rw [if_pos hd]; exact hp
        · rw [if_neg hd]
          cases hr : sp_P T n q 0 (d + 1) (p + 1) with
          | mk a b => cases a <;> exact ii _ _ _ _ _ h33.1 hr
      · rw [if_neg h33]
        by_cases h40 : sp_is T n p 40
        · rw [if_pos h40]
          by_cases hd : 4 ≤ d
          · rw [if_pos hd]; exact hp
          · rw [if_neg hd]
            cases hr : sp_P T n q 2 (d + 1) (p + 1) with
            | mk a b =>
              have hb := ii _ _ _ _ _ h40.1 hr
              cases a with
              | none => exact hb
              | some l =>
                dsimp only
                by_cases h41 : sp_is T n b 41
                · rw [if_pos h41]; exact h41.1
                · rw [if_neg h41]; exact hb
        · rw [if_neg h40]
          have ht := sp_test_f (T := T) hp
          cases hr : sp_test T n p with
          | mk a b => rw [hr] at ht; cases a <;> exact ht
    · rw [if_neg m0]
      by_cases m1 : m = 1
      · rw [if_pos m1]
        cases hr : sp_P T n q 0 d p with
        | mk a b =>
          have hb := ii _ _ _ _ _ hp hr
          cases a with
          | none => exact hb
          | some l =>
            dsimp only
            cases hr2 : sp_P T n q 3 d b with
            | mk a2 b2 => cases a2 <;> exact ii _ _ _ _ _ hb hr2
      · rw [if_neg m1]
        by_cases m2 : m = 2
        · rw [if_pos m2]
          cases hr : sp_P T n q 1 d p with
          | mk a b =>
            have hb := ii _ _ _ _ _ hp hr
            cases a with
            | none => exact hb
            | some l =>
              dsimp only
              cases hr2 : sp_P T n q 4 d b with
              | mk a2 b2 => cases a2 <;> exact ii _ _ _ _ _ hb hr2
        · rw [if_neg m2]
          by_cases m3 : m = 3
          · rw [if_pos m3]
            by_cases h38 : sp_is T n p 38
            · rw [if_pos h38]
              cases hr : sp_P T n q 0 d (p + 1) with
              | mk a b =>
                have hb := ii _ _ _ _ _ h38.1 hr
                cases a with
                | none => exact hb
                | some l =>
                  dsimp only
                  cases hr2 : sp_P T n q 3 d b with
                  | mk a2 b2 => cases a2 <;> exact ii _ _ _ _ _ hb hr2
            · rw [if_neg h38]; exact hp
          · rw [if_neg m3]
            by_cases h124 : sp_is T n p 124
            · rw [if_pos h124]
              cases hr : sp_P T n q 1 d (p + 1) with
              | mk a b =>
                have hb := ii _ _ _ _ _ h124.1 hr
                cases a with
                | none => exact hb
                | some l =>
                  dsimp only
                  cases hr2 : sp_P T n q 4 d b with
                  | mk a2 b2 => cases a2 <;> exact ii _ _ _ _ _ hb hr2
            · rw [if_neg h124]; exact hp
theorem sp_cla_f {T : Nat → Nat} {n p : Nat} (hp : p ≤ n) : (sp_cla T n p).2 ≤ n := by
  unfold sp_cla
  cases hh : sp_hd T n p with
  | mk b p1 =>
    have b1 := sp_tw_b hp hh
    cases b with
    | false => exact b1.2
    | true =>
      dsimp only
      have hn := sp_num_f (T := T) b1.2
      cases hr : sp_num T n p1 with
      | mk a p2 =>
        rw [hr] at hn
        cases a with
        | none => exact hn
        | some d =>
          dsimp only
          by_cases h2 : 2 ≤ sp_wd T n p
          · rw [if_pos h2]; exact hn
          · rw [if_neg h2]
            by_cases h32 : sp_is T n p2 32
            · rw [if_pos h32]
              have he : (sp_E T n (p2 + 1)).2 ≤ n := sp_P_f _ _ _ _ h32.1
              cases hr3 : sp_E T n (p2 + 1) with
              | mk a3 p3 => rw [hr3] at he; cases a3 <;> exact he
            · rw [if_neg h32]; exact hn
theorem sp_txt_f {T : Nat → Nat} {n : Nat} : ∀ (q p : Nat), p ≤ n → (sp_txt T n q p).2 ≤ n := by
  intro q
  induction q with
  | zero => intro p hp; exact hp
  | succ q ih =>
    intro p hp
    rw [sp_txt]
    have hc := sp_cla_f (T := T) hp
    cases hr : sp_cla T n p with
    | mk a b =>
      rw [hr] at hc
      cases a with
      | none => exact hc
      | some c =>
        dsimp only
        by_cases h1 : b = n
        · rw [if_pos h1]; exact hc
        · rw [if_neg h1]
          by_cases h2 : q = 0 ∨ ¬ sp_is T n b 59
          · rw [if_pos h2]; exact hc
          · rw [if_neg h2]
            have h59 : sp_is T n b 59 := Decidable.of_not_not fun z => h2 (Or.inr z)
            have hi := ih (b + 1) h59.1
            cases hr2 : sp_txt T n q (b + 1) with
            | mk a2 b2 => rw [hr2] at hi; cases a2 <;> exact hi
/-! what is made later, when a scaffold more is made, or one that isn't in use is read anew -/
theorem ap_olds {E F : px_H} {x : px_E} {i : Nat} (h : E[i]? = some x) : (E ++ F)[i]? = some x := by
  rw [List.getElem?_append_left (List.getElem?_eq_some_iff.mp h).1]
  exact h
theorem tc_R.pushS {mn : tc_mn} {sc : tc_sc} {MZ : px_H} {r : tc_r} (h : tc_R mn sc MZ r) {F : px_H} {tt : Nat} {n0 a0 a1 ri re pu : Int32} {cc vv : Nat → Int32} {e4 : px_E} (hF : F = [.inr (3, SCF (97 + r.2.length) tt n0 a0 a1 ri re pu), iA 100 cc, iA 6 vv, kA fun _ => 0, e4]) : tc_R mn (sc.1, fun x => if x = 97 + r.2.length then true else sc.2 x) MZ (r.1, r.2 ++ F) := by
  refine ⟨h.1, fun m k n v hm => ?_, fun c cl hc => ?_, fun c hg => ?_⟩
  · obtain ⟨g1, g2, g3, i, g4, g5⟩ := h.2.1 m k n v hm
    exact ⟨g1, g2, g3, i, g4, ap_olds g5⟩
  · rcases h.2.2.1 c cl hc with h1 | ⟨i, h1, gd, tt, a0, a1, cc, vv, kn, f0, f1, f2, f3, f4, f5⟩
    · exact Or.inl h1
    · exact Or.inr ⟨i, h1, gd, tt, a0, a1, cc, vv, kn, ap_olds f0, ap_olds f1, f2, ap_olds f3, ap_olds f4, f5⟩
  · have hg2 : (if c = 97 + r.2.length then true else sc.2 c) = true := hg
    by_cases hq : c = 97 + r.2.length
    · subst hq
      refine ⟨?_, r.2.length, rfl, tt, n0, a0, a1, ri, re, pu, cc, vv, ?_, ?_, ?_, ?_⟩
      · cases hn : sc.1 (97 + r.2.length) with
        | none => rfl
        | some cl =>
          rcases h.2.2.1 _ cl hn with ⟨h1, -⟩ | ⟨i, h1, gd, tt, a0, a1, cc, vv, kn, f0, -⟩
          · omega
          · have := (List.getElem?_eq_some_iff.mp f0).1
            omega
      · rw [List.getElem?_append_right (Nat.le_refl _), Nat.sub_self, hF]; rfl
      · rw [List.getElem?_append_right (by omega), show r.2.length + 1 - r.2.length = 1 by omega, hF]; rfl
      · rw [List.getElem?_append_right (by omega), show r.2.length + 2 - r.2.length = 2 by omega, hF]; rfl
      · rw [List.getElem?_append_right (by omega), show r.2.length + 3 - r.2.length = 3 by omega, hF]; rfl
    · rw [if_neg hq] at hg2
      obtain ⟨g1, i, g2, tt, n0, a0, a1, ri, re, pu, cc, vv, f0, f1, f2, f3⟩ := h.2.2.2 c hg2
      exact ⟨g1, i, g2, tt, n0, a0, a1, ri, re, pu, cc, vv, ap_olds f0, ap_olds f1, ap_olds f2, ap_olds f3⟩
theorem inr_3 {k : Nat} {a b : List Value} {P : Prop} (h : (some (Sum.inr (3, a)) : Option px_E) = some (Sum.inr (5 + k, b))) : P := by
  have h2 := Prod.mk.inj (Sum.inr.inj (Option.some.inj h))
  omega
/-- its object and its codes are others -/
theorem tc_R.read {mn : tc_mn} {sc : tc_sc} {MZ : px_H} {r : tc_r} (h : tc_R mn sc MZ r) {i : Nat} (hg : sc.2 (97 + i) = true) {tt : Nat} {n0 a0 a1 ri re pu : Int32} {g : Nat → Int32} (ocl : Option (List sp_Cl)) (hcl : ∀ cl, ocl = some cl → tc_gd cl ∧ n0 = nI (tc_codes cl).length ∧ ri = sp_rise cl ∧ re = sp_rest cl ∧ pu = sp_pull cl ∧ ∀ q t, (tc_codes cl)[q]? = some t → g q = t) : tc_R mn (fun c => if c = 97 + i then ocl else sc.1 c, fun c => if c = 97 + i then ocl.isNone else sc.2 c) MZ (r.1, (r.2.set i (.inr (3, SCF (97 + i) tt n0 a0 a1 ri re pu))).set (i + 1) (iA 100 g)) := by
  obtain ⟨hn, i0, hi0, t0, m0, b0, b1, rj, rk, pv, c0, v0, e0, e1, e2, e3⟩ := h.2.2.2 (97 + i) hg
  have hi : i0 = i := by omega
  subst hi
  have l0 := (List.getElem?_eq_some_iff.mp e0).1
  have l1 := (List.getElem?_eq_some_iff.mp e1).1
  have get : ∀ q, q ≠ i0 → q ≠ i0 + 1 → ((r.2.set i0 (.inr (3, SCF (97 + i0) tt n0 a0 a1 ri re pu))).set (i0 + 1) (iA 100 g))[q]? = r.2[q]? := fun q z1 z2 => by
    rw [List.getElem?_set_ne (Ne.symm z2), List.getElem?_set_ne (Ne.symm z1)]
  have at0 : ((r.2.set i0 (.inr (3, SCF (97 + i0) tt n0 a0 a1 ri re pu))).set (i0 + 1) (iA 100 g))[i0]? = some (.inr (3, SCF (97 + i0) tt n0 a0 a1 ri re pu)) := by
    rw [List.getElem?_set_ne (by omega), List.getElem?_set_self l0]
  have at1 : ((r.2.set i0 (.inr (3, SCF (97 + i0) tt n0 a0 a1 ri re pu))).set (i0 + 1) (iA 100 g))[i0 + 1]? = some (iA 100 g) := List.getElem?_set_self (by rw [List.length_set]; exact l1)
  have at2 := (get (i0 + 2) (by omega) (by omega)).trans e2
  have at3 := (get (i0 + 3) (by omega) (by omega)).trans e3
  refine ⟨h.1, fun m k n v hm => ?_, fun c cl' hcl2 => ?_, fun c hg2 => ?_⟩
  · obtain ⟨g1, g2, g3, q, rfl, e⟩ := h.2.1 m k n v hm
    refine ⟨g1, g2, g3, q, rfl, ?_⟩
    rw [get q (fun z => by rw [z, e0] at e; exact inr_3 e) (fun z => by rw [z, e1] at e; cases e)]
    exact e
  · have hc2 : (if c = 97 + i0 then ocl else sc.1 c) = some cl' := hcl2
    by_cases hq : c = 97 + i0
    · rw [if_pos hq] at hc2
      obtain ⟨gd, d1, d2, d3, d4, d5⟩ := hcl cl' hc2
      refine Or.inr ⟨i0, hq, gd, tt, a0, a1, g, v0, fun _ => 0, ?_, at1, d5, at2, at3, cok_0 cl'⟩
      rw [at0, d1, d2, d3, d4]
    · rw [if_neg hq] at hc2
      rcases h.2.2.1 c cl' hc2 with h1 | ⟨q, rfl, gd, tq, aq0, aq1, cq, vq, kq, f0, f1, f2, f3, f4, f5⟩
      · exact Or.inl h1
      · have hqi : q ≠ i0 := fun z => hq (by rw [z])
        have g0 := get q hqi (fun z => by rw [z, e1] at f0; cases f0)
        have g1 := get (q + 1) (fun z => by rw [z, e0] at f1; cases f1) (by omega)
        have g2 := get (q + 2) (fun z => by rw [z, e0] at f3; cases f3) (fun z => by rw [z, e1] at f3; cases f3)
        have g3 := get (q + 3) (fun z => by rw [z, e0] at f4; cases f4) (fun z => by rw [z, e1] at f4; cases f4)
        exact Or.inr ⟨q, rfl, gd, tq, aq0, aq1, cq, vq, kq, g0.trans f0, g1.trans f1, f2, g2.trans f3, g3.trans f4, f5⟩
  · have hg3 : (if c = 97 + i0 then ocl.isNone else sc.2 c) = true := hg2
    by_cases hq : c = 97 + i0
    · rw [if_pos hq] at hg3
      refine ⟨(if_pos hq).trans (Option.isNone_iff_eq_none.mp hg3), i0, hq, tt, n0, a0, a1, ri, re, pu, g, v0, at0, at1, at2, at3⟩
    · rw [if_neg hq] at hg3
      obtain ⟨hn', q, rfl, tq, nq, aq0, aq1, rq, sq, pq, cq, vq, f0, f1, f3, f4⟩ := h.2.2.2 c hg3
      have hqi : q ≠ i0 := fun z => hq (by rw [z])
      have g0 := get q hqi (fun z => by rw [z, e1] at f0; cases f0)
      have g1 := get (q + 1) (fun z => by rw [z, e0] at f1; cases f1) (by omega)
      have g2 := get (q + 2) (fun z => by rw [z, e0] at f3; cases f3) (fun z => by rw [z, e1] at f3; cases f3)
      have g3 := get (q + 3) (fun z => by rw [z, e0] at f4; cases f4) (fun z => by rw [z, e1] at f4; cases f4)
      exact ⟨(if_neg hq).trans hn', q, rfl, tq, nq, aq0, aq1, rq, sq, pq, cq, vq, g0.trans f0, g1.trans f1, g2.trans f3, g3.trans f4⟩
theorem ps_ht {K : tc_K} {MZ : px_H} {r : tc_r} {i n p : Nat} {cc0 : Nat → Int32} {w : Int32 × Int32 × Int32} {os : List Int32} (hz : MZ.length = 39) : PS (HT K MZ r) (97 + i) n cc0 w p os = HT K MZ (r.1, (r.2.set i (.inr (3, SCF (97 + i) 42 (nI os.length) (nI n) (nI p) w.1 w.2.1 w.2.2))).set (i + 1) (iA 100 (fun j => os.getD j (cc0 j)))) := by
  show ((HT K MZ r).set (97 + i) _).set (97 + i + 1) _ = _
  rw [ht_sE hz, Nat.add_assoc, ht_sE hz]
/-- what stays when a scaffold is read; v: the one that holds, c8: how many, c: whose place ns has -/
def sck (K K2 : tc_K) (v ns : Nat) (c8 : Int32) (c : Nat) : Prop := (K2.1 0 = K.1 0 ∧ K2.2.1 0 = K.2.1 0 ∧ K2.2.2.1 0 = K.2.2.1 0 ∧ K2.2.2.2.1 0 = v) ∧ (K2.1 1 = K.1 1 ∧ K2.2.1 1 = K.2.1 1 ∧ K2.2.2.1 1 = K.2.2.1 1 ∧ K2.2.2.2.1 1 = K.2.2.2.1 1) ∧ (K2.1 5 8 = c8 ∧ K2.1 5 9 = 0 ∧ K2.1 5 10 = K.1 5 10 ∧ K2.2.1 5 = K.2.1 5) ∧ (∀ t, K2.1 (6 + t) = K.1 (6 + t)) ∧ K2.2.2.2.2 = K.2.2.2.2 ∧ K2.2.2.1 4 ns = some c ∧ ∀ q, q ≠ ns → K2.2.2.1 4 q = K.2.2.1 4 q
theorem va_6 {α : Type} {f : Nat → α} {x : α} {k t : Nat} (hk : k < 6) : va_up f k x (6 + t) = f (6 + t) := if_neg (by omega)
section TCS
variable {G : px_G} {D : Nat} {K K1 : tc_K} {MZ h : px_H} {r r1 : tc_r} {Q : Option Value → px_H → Prop} {mn : tc_mn} {sc : tc_sc} {B : Nat} {S : sp_St} {t0 : Int32} {hl fr : Nat → Int32}
set_option maxRecDepth 4000 in
theorem l_TC_scaffold_42 {C S i ns nf : Nat} {T : Nat → Nat} {l1 l2 : Option Value} (hD : 24 ≤ D) (hR : tc_R mn sc MZ r) (h8 : K.1 5 8 = nI ns) (hns : ns < 6) (h9 : K.1 5 9 = nI nf) (hT : ph_tx (K.2.1 5 4) T nf) (hw : K.2.2.1 4 ns = some (97 + i)) (hg : sc.2 (97 + i) = true) (kf : ∀ p', sp_txt T nf 10 0 = (none, p') → ∀ K2 (sc2 : tc_sc) (r2 : tc_r), tc_R mn sc2 MZ r2 → (∀ c, sc.1 c ≠ none → sc2.1 c = sc.1 c) → sc2.2 (97 + i) = true → sck K K2 (K.2.2.2.1 0) ns (nI ns) (97 + i) → Q (some (.int (-10 - nI p'))) (HT K2 MZ r2)) (kt : ∀ cl2 p', sp_txt T nf 10 0 = (some cl2, p') → ∀ K2 (sc2 : tc_sc) (r2 : tc_r) c, tc_R mn sc2 MZ r2 → sc2.1 c = some cl2 → (∀ c, sc.1 c ≠ none → sc2.1 c = sc.1 c) → sck K K2 c ns (nI (ns + 1)) c → Q (some (.int (nI ns))) (HT K2 MZ r2)) : px_W G D C S m_TC_scaffold 42 [some (.ref 0), l1, l2] [] (HT K MZ r) Q := by
  obtain ⟨hn, i0, hi0, t0, m0, b0, b1, rj, rk, pv, cc0, v0, e0, e1, -, -⟩ := hR.2.2.2 (97 + i) hg
  have hii : i = i0 := by omega
  subst hii
  have li0 := (List.getElem?_eq_some_iff.mp e1).1
  refine wp_aload_n d_TC_scaffold_42 rfl rfl rfl ?_
  refine gC_3 gf_TC_42_0 d_TC_scaffold_43 ?_
  refine wp_aload_n d_TC_scaffold_46 rfl rfl rfl ?_
  refine gC_8 gf_TC_143_0 d_TC_scaffold_47 ?_
  rw [h8]
  refine lA_41 d_TC_scaffold_50 (vp_in_nI (by omega) (by decide)) ?_
  rw [nI_clamp (by omega), hw]
  show px_W _ _ _ _ _ _ _ (.ref (97 + i) :: _) _ _
  refine wp_astore_n (ls' := [_, _, _]) d_TC_scaffold_51 rfl (by decide) rfl rfl ?_
  refine wp_aload_n d_TC_scaffold_52 rfl rfl rfl ?_
  refine wp_aload_n d_TC_scaffold_53 rfl rfl rfl ?_
  refine gC_4 gf_TC_46_0 d_TC_scaffold_54 ?_
  refine wp_aload_n d_TC_scaffold_57 rfl rfl rfl ?_
  refine gC_9 gf_TC_140_0 d_TC_scaffold_58 ?_
  rw [h9]
  refine wp_callV (r := (R_3, T_3, 10)) (M' := m_Sc_compile) (as := [_, _]) (D' := D - 1) (C1 := 0) (C2 := C) (S1 := 0) (S2 := S) d_TC_scaffold_61 rfl w_514 w_515 w_516 ((ht_E hR.1).trans e0) k_Sc_compile (Nat.le_of_ble_eq_true rfl) rfl (Nat.le_of_ble_eq_true rfl) (by omega) (Nat.zero_add _).symm (Nat.zero_add _).symm ?_
  refine c_Sc_compile (fs := []) (f := K.2.1 5 4) (T := T) (n := nf) (by omega) ⟨by rw [ht_len, hR.1]; omega, by omega, by omega, ta_42⟩ hT ((ht_E hR.1).trans e0) (by rw [Nat.add_assoc]; exact (ht_E hR.1).trans e1) (fun cl2 p' hx => ?_) (fun p' w' os' hx => ?_)
  · skip
    rw [ps_ht hR.1]
    refine wp_istore_n (ls' := [_, _, _]) d_TC_scaffold_64 rfl (by decide) rfl ?_
    refine wp_aload_n d_TC_scaffold_65 rfl rfl rfl ?_
    refine wp_iconst (v := 0) d_TC_scaffold_66 rfl ?_
    refine pC_9 pgf_TC_140_0 d_TC_scaffold_67 ?_
    refine wp_iload_n d_TC_scaffold_70 rfl rfl ?_
    refine wp_if_lt (t := 79) d_TC_scaffold_71 (by decide) (fun c_71 => ?_) (fun c_71 => (absurd c_71 (by decide)))
    refine wp_aload_n d_TC_scaffold_79 rfl rfl rfl ?_
    refine gC_0 gf_TC_24_0 d_TC_scaffold_80 ?_
    refine wp_aload_n d_TC_scaffold_83 rfl rfl rfl ?_
    refine toS 0 ?_
    refine pS_14 (by decide) pgf_TC_150_1 d_TC_scaffold_84 ?_
    refine wp_aload_n d_TC_scaffold_87 rfl rfl rfl ?_
    refine wp_dup d_TC_scaffold_88 rfl ?_
    refine gC_8 gf_TC_143_0 d_TC_scaffold_89 ?_
    refine wp_topi (fun y e_89 => ?_)
    rw [show y = nI ns from e_89.trans h8]
    refine wp_iconst (v := 1) d_TC_scaffold_92 rfl ?_
    refine wp_iadd d_TC_scaffold_93 ?_
    rw [nI_1]
    refine pC_8 pgf_TC_143_0 d_TC_scaffold_94 ?_
    refine wp_aload_n d_TC_scaffold_97 rfl rfl rfl ?_
    refine gC_8 gf_TC_143_0 d_TC_scaffold_98 ?_
    refine wp_topi (fun y e_98 => ?_)
    rw [show y = nI (ns + 1) from e_98.trans rfl]
    refine wp_iconst (v := 1) d_TC_scaffold_101 rfl ?_
    refine wp_isub d_TC_scaffold_102 ?_
    rw [nI_pred]
    refine wp_ireturn d_TC_scaffold_103 rfl rfl ?_
    have hgd := sp_txt_gd hT.1 hx
    refine kt cl2 p' hx _ _ _ (97 + i) (hR.read hg (tt := 42) (n0 := nI ([] ++ tc_codes cl2).length) (a0 := nI nf) (a1 := nI p') (ri := (cl2.foldl wcl (5, 3, 40)).1) (re := (cl2.foldl wcl (5, 3, 40)).2.1) (pu := (cl2.foldl wcl (5, 3, 40)).2.2) (g := fun j => ([] ++ tc_codes cl2).getD j (cc0 j)) (some cl2) (fun cl h => ?_)) (show (if 97 + i = 97 + i then _ else _) = _ from if_pos rfl) (fun c hc => ?_) ?_
    · cases h
      rw [wcl_e]
      refine ⟨hgd, rfl, rfl, rfl, rfl, fun q t hq => ?_⟩
      show (tc_codes cl2).getD q _ = t
      rw [List.getD_eq_getElem?_getD, hq]
      rfl
    · show (if c = 97 + i then some cl2 else sc.1 c) = sc.1 c
      by_cases hq : c = 97 + i
      · exact absurd (by rw [hq]; exact hn) hc
      · exact if_neg hq
    · exact ⟨⟨rfl, rfl, rfl, rfl⟩, ⟨rfl, rfl, rfl, rfl⟩, ⟨rfl, rfl, rfl, rfl⟩, fun t => (va_6 (by decide)).trans ((va_6 (by decide)).trans (va_6 (by decide))), rfl, hw, fun q _ => rfl⟩
  · skip
    have hp' : p' ≤ nf := by
      have := sp_txt_f (T := T) (n := nf) 10 0 (Nat.zero_le _)
      rw [hx] at this
      exact this
    have hn100 := hT.1
    rw [ps_ht hR.1]
    refine wp_istore_n (ls' := [_, _, _]) d_TC_scaffold_64 rfl (by decide) rfl ?_
    refine wp_aload_n d_TC_scaffold_65 rfl rfl rfl ?_
    refine wp_iconst (v := 0) d_TC_scaffold_66 rfl ?_
    refine pC_9 pgf_TC_140_0 d_TC_scaffold_67 ?_
    refine wp_iload_n d_TC_scaffold_70 rfl rfl ?_
    refine wp_if_lt (t := 79) d_TC_scaffold_71 (by decide) (fun c_71 => absurd c_71 (nI_pos (by omega))) (fun c_71 => ?_)
    refine wp_bipush (v := (-10)) d_TC_scaffold_74 (by decide) ?_
    refine wp_iload_n d_TC_scaffold_76 rfl rfl ?_
    refine wp_isub d_TC_scaffold_77 ?_
    refine wp_ireturn d_TC_scaffold_78 rfl rfl ?_
    refine kf p' hx _ _ _ (hR.read hg (tt := 42) (n0 := nI os'.length) (a0 := nI nf) (a1 := nI p') (ri := w'.1) (re := w'.2.1) (pu := w'.2.2) (g := fun j => os'.getD j (cc0 j)) none (fun cl h => by cases h)) (fun c hc => ?_) (show (if 97 + i = 97 + i then _ else _) = true by rw [if_pos rfl]; rfl) ?_
    · show (if c = 97 + i then none else sc.1 c) = sc.1 c
      by_cases hq : c = 97 + i
      · exact absurd (by rw [hq]; exact hn) hc
      · exact if_neg hq
    · exact ⟨⟨rfl, rfl, rfl, rfl⟩, ⟨rfl, rfl, rfl, rfl⟩, ⟨h8, rfl, rfl, rfl⟩, fun t => va_6 (by decide), rfl, hw, fun q _ => rfl⟩
theorem ht_apps {K : tc_K} {MZ : px_H} {r : tc_r} {F : px_H} : HT K MZ r ++ F = HT K MZ (r.1, r.2 ++ F) := by
  unfold HT
  rw [List.append_assoc, List.append_assoc]
theorem sck.kw {K K2 : tc_K} {v ns c y : Nat} {c8 : Int32} (h : sck (kW K 4 (va_up (K.2.2.1 4) ns (some y))) K2 v ns c8 c) : sck K K2 v ns c8 c := ⟨h.1, h.2.1, h.2.2.1, h.2.2.2.1, h.2.2.2.2.1, h.2.2.2.2.2.1, fun q hq => (h.2.2.2.2.2.2 q hq).trans (if_neg hq)⟩
set_option maxRecDepth 4000 in
theorem c_TC_scaffold {ns nf : Nat} {T : Nat → Nat} (hD : 24 ≤ D) (hR : tc_R mn sc MZ r) (h8 : K.1 5 8 = nI ns) (hns6 : ns ≤ 6) (h9 : K.1 5 9 = nI nf) (hT : ph_tx (K.2.1 5 4) T nf) (hw : ns < 6 → K.2.2.1 4 ns = none ∨ ∃ c, K.2.2.1 4 ns = some c ∧ sc.2 c = true) (kF : ns = 6 → Q (some (.int (-4))) (HT K MZ r)) (kf : ns < 6 → ∀ p', sp_txt T nf 10 0 = (none, p') → ∀ K2 (sc2 : tc_sc) (r2 : tc_r) c, tc_R mn sc2 MZ r2 → (∀ c, sc.1 c ≠ none → sc2.1 c = sc.1 c) → sc2.2 c = true → sck K K2 (K.2.2.2.1 0) ns (nI ns) c → Q (some (.int (-10 - nI p'))) (HT K2 MZ r2)) (kt : ns < 6 → ∀ cl2 p', sp_txt T nf 10 0 = (some cl2, p') → ∀ K2 (sc2 : tc_sc) (r2 : tc_r) c, tc_R mn sc2 MZ r2 → sc2.1 c = some cl2 → (∀ c, sc.1 c ≠ none → sc2.1 c = sc.1 c) → sck K K2 c ns (nI (ns + 1)) c → Q (some (.int (nI ns))) (HT K2 MZ r2)) : px_W G D 5 2420 m_TC_scaffold 0 (px_ent 3 [.ref 0]) [] (HT K MZ r) Q := by
  show px_W _ _ _ _ _ _ [some (.ref 0), none, none] [] _ _
  refine wp_aload_n d_TC_scaffold_0 rfl rfl rfl ?_
  refine gC_8 gf_TC_143_0 d_TC_scaffold_1 ?_
  rw [h8]
  refine wp_bipush (v := 6) d_TC_scaffold_4 (by decide) ?_
  refine wp_icmp_lt (t := 12) d_TC_scaffold_6 (by decide) (fun c_6 => ?_) (fun c_6 => ?_)
  · skip
    have hns : ns < 6 := (nI_ltI (b := 6) (by omega) (by decide)).mp c_6
    have hlen : (HT K MZ r).length = 97 + r.2.length := by rw [ht_len, hR.1]; omega
    refine wp_aload_n d_TC_scaffold_12 rfl rfl rfl ?_
    refine gC_3 gf_TC_42_0 d_TC_scaffold_13 ?_
    refine wp_aload_n d_TC_scaffold_16 rfl rfl rfl ?_
    refine gC_8 gf_TC_143_0 d_TC_scaffold_17 ?_
    rw [h8]
    refine lA_41 d_TC_scaffold_20 (vp_in_nI (by omega) (by decide)) ?_
    rw [nI_clamp (by omega)]
    rcases hw hns with hw | ⟨c, hw, hg⟩
    · rw [hw]
      show px_W _ _ _ _ _ _ _ (.null :: _) _ _
      refine wp_ifnonnullN d_TC_scaffold_21 ?_
      refine wp_aload_n d_TC_scaffold_24 rfl rfl rfl ?_
      refine gC_3 gf_TC_42_0 d_TC_scaffold_25 ?_
      refine wp_aload_n d_TC_scaffold_28 rfl rfl rfl ?_
      refine gC_8 gf_TC_143_0 d_TC_scaffold_29 ?_
      rw [h8]
      refine wp_new (ci := 3) (N := 10) (C' := 4) (S' := 2410) (fs := [.null, .null, .null, .null, .int 0, .int 0, .int 0, .int 0, .int 0, .int 0]) d_TC_scaffold_32 ⟨(R_3, T_3, 10), rfl, rfl, w_102, w_103, w_74, fun j hj => by
        match j, hj with
        | 0, _ => exact ⟨_, rfl, rfl⟩
        | 1, _ => exact ⟨_, rfl, rfl⟩
        | 2, _ => exact ⟨_, rfl, rfl⟩
        | 3, _ => exact ⟨_, rfl, rfl⟩
        | 4, _ => exact ⟨_, rfl, rfl⟩
        | 5, _ => exact ⟨_, rfl, rfl⟩
        | 6, _ => exact ⟨_, rfl, rfl⟩
        | 7, _ => exact ⟨_, rfl, rfl⟩
        | 8, _ => exact ⟨_, rfl, rfl⟩
        | 9, _ => exact ⟨_, rfl, rfl⟩⟩ rfl rfl rfl ?_
      rw [hlen]
      refine wp_dup d_TC_scaffold_35 rfl ?_
      refine wp_bipush (v := 64) d_TC_scaffold_36 (by decide) ?_
      refine wp_callI (M' := m_Sc_init) (as := [_]) (D' := D - 1) (C1 := 4) (C2 := 0) (S1 := 106 + 2304) (S2 := 0) rfl d_TC_scaffold_38 rfl w_104 w_105 k_Sc_init (Nat.le_of_ble_eq_true rfl) rfl (Nat.le_of_ble_eq_true rfl) (by omega) rfl rfl ?_
      refine c_Sc_init (N := 2304) (by omega) (by decide) (by decide) hlen ?_
      rw [ht_apps]
      refine sA_41 d_TC_scaffold_41 (vp_in_nI (by omega) (by decide)) ((ht_E hR.1).trans (by rw [List.getElem?_append_right (Nat.le_refl _), Nat.sub_self]; rfl)) ⟨_, rfl, Or.inl rfl⟩ ?_
      rw [nI_clamp (by omega)]
      refine l_TC_scaffold_42 (i := r.2.length) (ns := ns) (nf := nf) (T := T) hD (hR.pushS rfl) h8 hns h9 hT (show va_up (K.2.2.1 4) ns (some (97 + r.2.length)) ns = _ from if_pos rfl) (show (if 97 + r.2.length = 97 + r.2.length then true else sc.2 (97 + r.2.length)) = true from if_pos rfl) (fun p' hx K2 sc2 r2 g1 g2 g3 g4 => kf hns p' hx K2 sc2 r2 _ g1 g2 g3 g4.kw) (fun cl2 p' hx K2 sc2 r2 c g1 g2 g3 g4 => kt hns cl2 p' hx K2 sc2 r2 c g1 g2 g3 g4.kw)
    · rw [hw]
      show px_W _ _ _ _ _ _ _ (.ref c :: _) _ _
      refine wp_ifnonnull (t := 42) d_TC_scaffold_21 (by decide) ?_
      obtain ⟨hn, i, rfl, -⟩ := hR.2.2.2 c hg
      exact l_TC_scaffold_42 (i := i) (ns := ns) (nf := nf) (T := T) hD hR h8 hns h9 hT hw hg (fun p' hx K2 sc2 r2 g1 g2 g3 g4 => kf hns p' hx K2 sc2 r2 _ g1 g2 g3 g4) (fun cl2 p' hx K2 sc2 r2 c g1 g2 g3 g4 => kt hns cl2 p' hx K2 sc2 r2 c g1 g2 g3 g4)
  · skip
    refine wp_bipush (v := (-4)) d_TC_scaffold_9 (by decide) ?_
    refine wp_ireturn d_TC_scaffold_11 rfl rfl ?_
    exact kF (by
      have : ¬ ns < 6 := fun z => c_6 ((nI_ltI (b := 6) (by omega) (by decide)).mpr z)
      omega)
end TCS

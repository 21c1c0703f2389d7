theorem ap_old {E : px_H} {e x : px_E} {i : Nat} (h : E[i]? = some x) : (E ++ [e])[i]? = some x := by
  rw [List.getElem?_append_left (List.getElem?_eq_some_iff.mp h).1]
  exact h
theorem sc_at.app {E : px_H} {e : px_E} {i : Nat} {cl : List sp_Cl} (h : sc_at E i cl) : sc_at (E ++ [e]) i cl := by
  obtain ⟨gd, tt, a0, a1, cc, vv, kn, f0, f1, f2, f3, f4, f5⟩ := h
  exact ⟨gd, tt, a0, a1, cc, vv, kn, ap_old f0, ap_old f1, f2, ap_old f3, ap_old f4, f5⟩
theorem sg_at.app {E : px_H} {e : px_E} {i : Nat} (h : sg_at E i) : sg_at (E ++ [e]) i := by
  obtain ⟨tt, n0, a0, a1, ri, re, pu, cc, vv, f0, f1, f2, f3⟩ := h
  exact ⟨tt, n0, a0, a1, ri, re, pu, cc, vv, ap_old f0, ap_old f1, ap_old f2, ap_old f3⟩
/-- another man is made -/
theorem tc_R.push {mn : tc_mn} {sc : tc_sc} {MZ : px_H} {r : tc_r} (h : tc_R mn sc MZ r) {k n v : Nat} (hk : k < 7) (hn : n < 6) (hv : v < 10) : tc_R (fun m => if m = 97 + r.2.length then some (k, n, v) else mn m) sc MZ (r.1, r.2 ++ [.inr (5 + k, [.int (nI n), .int (nI v)])]) := by
  refine ⟨h.1, fun m k' n' v' hm => ?_, fun c cl hc => ?_, fun c hg => ?_⟩
  · by_cases hq : m = 97 + r.2.length
    · have e : (if m = 97 + r.2.length then some (k, n, v) else mn m) = some (k', n', v') := hm
      rw [if_pos hq] at e
      cases e
      exact ⟨hk, hn, hv, r.2.length, hq, List.getElem?_concat_length ..⟩
    · have e : (if m = 97 + r.2.length then some (k, n, v) else mn m) = some (k', n', v') := hm
      rw [if_neg hq] at e
      obtain ⟨g1, g2, g3, i, g4, g5⟩ := h.2.1 m k' n' v' e
      exact ⟨g1, g2, g3, i, g4, ap_old g5⟩
  · rcases h.2.2.1 c cl hc with h1 | ⟨i, h1, h2⟩
    · exact Or.inl h1
    · exact Or.inr ⟨i, h1, h2.app⟩
  · obtain ⟨g1, i, g2, g3⟩ := h.2.2.2 c hg
    exact ⟨g1, i, g2, g3.app⟩

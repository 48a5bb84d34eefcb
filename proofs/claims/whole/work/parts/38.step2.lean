theorem once_res {S M : St} {p e : Nat} (hp : p < 2) (he : e < 4) (hR : Rel S M) (h1 : S (13 + 14 * p) 2 = nI e) (h2 : S (4 + 2 * e) 1 = 2) (h3 : M 4 p = nI e) : Res p e (mkS S (13 + 14 * p) (4 + 2 * e)) (onM M (nI p)) := by
  obtain ⟨r1, -, -, r4⟩ := hR.1.2.2.2.2.2 e he
  have r5 := (r4 (Or.inl (by rw [← r1]; exact h2))).1
  unfold mkS onM
  rw [nI_clamp (show p < 2 ^ 31 by omega), h3, nI_clamp (show e < 2 ^ 31 by omega), ← r5, alw_eq hR hp (Or.inr (Or.inr rfl))]
  by_cases h : alM M (nI p) (S (4 + 2 * e) 7) 4 = true
  · rw [if_pos h, if_pos h, ← hR.1.2.2.1 _ (inr_j (k := 256) rfl (by decide) (alM_in h))]
    exact word_res hp he hR h1 h2 h3 _
  · rw [if_neg h, if_neg h]
    exact res_fault hp he hR h1 h2 h3 1
theorem steps_res {p e : Nat} (hp : p < 2) (he : e < 4) : ∀ (n k : Nat) (S M : St), Res p e S M → stp (13 + 14 * p) (4 + 2 * e) n k S = spM (nI p) n k M ∧ Rel (endS (stS (13 + 14 * p) (4 + 2 * e) n S) (13 + 14 * p) (4 + 2 * e)) (ssM (nI p) n M)
  | 0, k, S, M, h => by
    unfold stp spM stS ssM endS
    refine ⟨rfl, ?_⟩
    rcases h with ⟨a, -, c, -⟩ | ⟨a, -, c⟩
    · rw [if_pos c]; exact a
    · rw [if_neg a]; exact c
  | n + 1, k, S, M, h => by
    unfold stp spM stS ssM
    rw [nI_clamp (show p < 2 ^ 31 by omega)]
    rcases h with ⟨a, b, c, d⟩ | ⟨a, b, c⟩
    · have hn : ¬ M 4 p < 0 := by rw [d]; exact nI_pos (by omega)
      rw [if_pos c, if_pos c, if_neg hn, if_neg hn]
      exact steps_res hp he n (k + 1) _ _ (once_res hp he a b c d)
    · rw [if_neg a, if_neg a, if_pos b, if_pos b]
      refine ⟨rfl, ?_⟩
      unfold endS
      rw [if_neg a]
      exact c
theorem R_step {S M : St} (hR : Rel S M) (z N : Int32) : vStep S z N = wStep M z N ∧ Rel (sStep S z N) (tStep M z N) := by
  unfold vStep wStep sStep tStep
  rw [runs_eq hR]
  by_cases h : rnM M z = true ∧ okN N = true
  · rw [if_pos h, if_pos h, if_pos h, if_pos h]
    obtain ⟨p, e, hp, rfl, he, h1, h2, h3⟩ := run_ex hR h.1
    unfold enOf
    rw [nI_clamp (show p < 2 ^ 31 by omega), h1, nI_clamp (show e < 2 ^ 31 by omega)]
    obtain ⟨a, b⟩ := steps_res hp he N.toNatClampNeg 0 S M (Or.inl ⟨hR, h1, h2, h3⟩)
    exact ⟨by rw [a], b⟩
  · rw [if_neg h, if_neg h, if_neg h, if_neg h]
    exact ⟨rfl, hR⟩

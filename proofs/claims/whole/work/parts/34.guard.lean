-- ===== guard: the guards that are asked for =====
theorem shw_tri {j : Nat} {a b c : Int32} (hj : j < 3) : shw (nI j) a b c = tri j a b c := by
  have : j = 0 ∨ j = 1 ∨ j = 2 := by omega
  rcases this with rfl | rfl | rfl <;> rfl
def evT (f n : Nat) : Bool := decide (n = 0) || ((evM (nI f) (nI n) == blkS (nI f) (nI n)) && ((bAd (nI f) (nI n) == 16 * nI f + 8 * nI n - 1) && ((nI f + nI n) * 16 == 16 * nI f + 16 * nI n)))
theorem ev_all : ((List.range 16).all fun f => (List.range 9).all fun n => evT f n) = true := by decide +kernel
theorem ev_f {f n : Nat} (hf : f < 16) (hn1 : 1 ≤ n) (hn : n < 9) : evM (nI f) (nI n) = blkS (nI f) (nI n) ∧ bAd (nI f) (nI n) = 16 * nI f + 8 * nI n - 1 ∧ (nI f + nI n) * 16 = 16 * nI f + 16 * nI n := by
  have h := all_of (all_of ev_all f hf) n hn
  unfold evT at h
  rw [decide_eq_false (show ¬ n = 0 by omega), Bool.false_or, Bool.and_eq_true, Bool.and_eq_true] at h
  exact ⟨beq_iff_eq.mp h.1, beq_iff_eq.mp h.2.1, beq_iff_eq.mp h.2.2⟩
theorem sh7 : ((List.range 16).all fun t => (nI (256 + t) - 256) * 16 + 16 / 2 - 1 == 16 * (nI (256 + t) - 256) + 7) = true := by decide +kernel
theorem kh {k : Nat} (h1 : 1 ≤ k) (hk : k < 11) : (nI k - 1) / 2 = nI ((k - 1) / 2) := by
  rw [show (1 : Int32) = nI 1 from rfl, pk_sub h1, show (2 : Int32) = nI 2 from rfl, pk_div (by omega) (by decide) (by decide)]
theorem kr {k : Nat} (hk : k < 11) : rmI (nI k) 2 = nI (k % 2) := by
  unfold rmI
  rw [show (2 : Int32) = nI 2 from rfl]
  exact pk_rem (by omega) (by decide) (by decide)
theorem s9_eq {S M : St} (hR : Rel S M) {p : Nat} (hp : p < 2) : s9M M (nI p) = shV S (13 + 14 * p) := by
  unfold s9M nwM shV
  rw [nI_clamp (by omega), ← hR.2.1 p hp]
  rcases hR.2.2.1.1 p hp with h | ⟨e, he, h, h2⟩
  · rw [h, if_pos (show (-1 : Int32) < 0 by decide), if_pos rfl]
  · rw [h, if_neg (nI_pos (by omega)), if_neg (m1_ne (by omega)), nI_clamp (by omega)]
    obtain ⟨r1, r2, -, -⟩ := hR.1.2.2.2.2.2 e he
    exact (r2 (by rw [← r1, h2]; decide)).2.2.2.1.symm
theorem R_guard {S M : St} (hR : Rel S M) (z u v : Int32) : grdS S z u v = grM M z u v := by
  unfold grdS grM
  by_cases hz : inr z 2 = true
  · by_cases hu : inr u 11 = true
    · rw [if_pos (show inr z 2 = true ∧ inr u 11 = true from ⟨hz, hu⟩)]
      by_cases hv : inr v 3 = true
      · rw [if_pos (show inr z 2 = true ∧ inr u 11 = true ∧ inr v 3 = true from ⟨hz, hu, hv⟩)]
        obtain ⟨p, hp, rfl⟩ := inr_ex (k := 2) (by decide) rfl hz
        obtain ⟨k, hk, rfl⟩ := inr_ex (k := 11) (by decide) rfl hu
        obtain ⟨j, hj, rfl⟩ := inr_ex (k := 3) (by decide) rfl hv
        have G := hR.2.2.2.2.2 p hp k hk j hj
        rw [nI_clamp (by omega), nI_clamp (by omega)]
        have e1 : (if nI j = 0 then S (13 + 14 * p + 3 + 1 * k) 0 else if nI j = 1 then S (13 + 14 * p + 3 + 1 * k) 1 else if nI j = 2 then S (13 + 14 * p + 3 + 1 * k) 2 else -1) = S (13 + 14 * p + 3 + 1 * k) j := by
          have : j = 0 ∨ j = 1 ∨ j = 2 := by omega
          rcases this with rfl | rfl | rfl <;> rfl
        rw [e1, G, s9_eq hR hp]
        unfold gsp
        by_cases h0 : k = 0
        · rw [if_pos h0, h0, if_pos (show nI 0 = 0 from rfl), shw_tri hj]
        · rw [if_neg h0, if_neg (nI_ne0 (by omega) (by omega))]
          by_cases h10 : k = 10
          · rw [if_pos h10, h10, if_pos (show nI 10 = 10 from rfl), shw_tri hj]
            unfold nwM
            rw [nI_clamp (by omega)]
            by_cases q : S (13 + 14 * p) 2 = -1
            · rw [if_pos q, if_pos ((pe_lt hR hp).mp q)]
            · rw [if_neg q, if_neg (fun w => q ((pe_lt hR hp).mpr w))]
          · rw [if_neg h10, if_neg (show ¬ nI k = 10 from fun q => h10 ((nI_eq (b := 10) (by omega) (by decide)).mp q))]
            by_cases h9 : k = 9
            · rw [if_pos h9, h9, if_pos (show nI 9 = 9 from rfl)]
              have hs := shS_shV hR.2.2.1 hR.2.2.2.1 hp
              generalize shV S (13 + 14 * p) = w at hs ⊢
              unfold gSh
              by_cases h1 : w = -1
              · rw [if_pos h1, h1]; rfl
              · obtain ⟨t, ht, rfl⟩ := shS_ex hs h1
                rw [if_neg h1, if_neg (nI_pos (by omega))]
                by_cases h2 : (256 : Int32) ≤ nI t
                · rw [if_pos h2, if_pos h2, shw_tri hj]
                  have h3 : 256 ≤ t := (nI_leI (a := 256) (by decide) (by omega)).mp h2
                  have h4 := beq_iff_eq.mp (all_of sh7 (t - 256) (by omega))
                  rw [show 256 + (t - 256) = t by omega] at h4
                  rw [h4]
                · rw [if_neg h2, if_neg h2, shw_tri hj]
            · rw [if_neg h9, if_neg (show ¬ nI k = 9 from fun q => h9 ((nI_eq (b := 9) (by omega) (by decide)).mp q)), kh (by omega) hk]
              generalize he' : (k - 1) / 2 = e
              have he : e < 4 := by omega
              unfold grE
              rw [nI_clamp (by omega), kr hk]
              obtain ⟨r1, r2, -, -⟩ := hR.1.2.2.2.2.2 e he
              by_cases h5 : M 5 e = 0
              · rw [if_pos h5]
                unfold gLo gUp
                rw [r1, if_pos h5, if_pos h5]
                split <;> rfl
              · rw [if_neg h5]
                obtain ⟨r3, r4, -, -, -⟩ := r2 h5
                obtain ⟨i1, i2, i3, i4, i5, -⟩ := hR.2.2.2.1.1 e he (by rw [r1]; exact h5)
                obtain ⟨v1, v2, v3⟩ := ev_f (f := fE S e) (n := nE S e) (by omega) i3 i4
                rw [← i1, ← i2] at v1 v2 v3
                rw [← r3, ← r4, v1]
                unfold gLo gUp
                rw [r1, if_neg h5, if_neg h5]
                by_cases hm : k % 2 = 1
                · rw [if_pos hm, hm, if_pos (show nI 1 = 1 from rfl), shw_tri hj]
                  by_cases hb : blkS (S (4 + 2 * e) 2) (S (4 + 2 * e) 3) = true
                  · rw [if_pos hb, if_pos hb, tri0]
                  · rw [if_neg hb, if_neg hb, i1, w16, w16l]
                · have hm0 : k % 2 = 0 := by omega
                  rw [if_neg hm, hm0, if_neg (show ¬ nI 0 = 1 by decide)]
                  have hr : (if S (13 + 14 * p) 2 = nI e then (7 : Int32) else 0) = (if nI e = nwM M (nI p) then 7 else 0) := by
                    unfold nwM
                    rw [nI_clamp (by omega), ← hR.2.1 p hp]
                    by_cases q : S (13 + 14 * p) 2 = nI e
                    · rw [if_pos q, if_pos q.symm]
                    · rw [if_neg q, if_neg (fun w => q w.symm)]
                  by_cases hb : blkS (S (4 + 2 * e) 2) (S (4 + 2 * e) 3) = true
                  · rw [if_pos hb, if_pos hb, shw_tri hj, hr, ← v2]
                    rfl
                  · rw [if_neg hb, if_neg hb, shw_tri hj, hr, v3]
      · rw [if_neg (show ¬ (inr z 2 = true ∧ inr u 11 = true ∧ inr v 3 = true) from fun q => hv q.2.2)]
        have hn : ∀ n, n < 3 → ¬ v = nI n := fun n hn q => hv (by rw [q]; exact inr_nI (k := 3) hn (by decide))
        rw [if_neg (show ¬ v = 0 from hn 0 (by decide)), if_neg (show ¬ v = 1 from hn 1 (by decide)), if_neg (show ¬ v = 2 from hn 2 (by decide))]
    · rw [if_neg (show ¬ (inr z 2 = true ∧ inr u 11 = true) from fun q => hu q.2), if_neg (show ¬ (inr z 2 = true ∧ inr u 11 = true ∧ inr v 3 = true) from fun q => hu q.2.1)]
  · rw [if_neg (show ¬ (inr z 2 = true ∧ inr u 11 = true) from fun q => hz q.1), if_neg (show ¬ (inr z 2 = true ∧ inr u 11 = true ∧ inr v 3 = true) from fun q => hz q.1)]

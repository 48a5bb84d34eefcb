-- ===== finite facts about guards =====
theorem gm0 (a z b : Int32) : gmS 0 a z b = false := by
  unfold gmS
  rw [if_neg (by decide), if_neg (by decide), if_neg (by decide)]
theorem gm3 (a z b b' : Int32) : gmS 3 a z b = gmS 3 a z b' := by
  have h1 : ¬ (3 : Int32) = 1 := by decide
  have h2 : ¬ (3 : Int32) = 2 := by decide
  simp [gmS, h1, h2]
theorem gm2 (a z b : Int32) : gmS 2 a z b = decide (z = a) := by
  unfold gmS
  rw [if_neg (by decide), if_pos rfl]
theorem gm1 (a z b : Int32) : gmS 1 a z b = (!decide (z < b) && !decide (a ≤ z)) := by
  unfold gmS
  rw [if_pos rfl]
theorem all_of {n : Nat} {P : Nat → Bool} (h : (List.range n).all P = true) : ∀ k, k < n → P k = true := fun k hk => List.all_eq_true.mp h k (List.mem_range.mpr hk)
def bAd (f n : Int32) : Int32 := f * 16 + ((f + n) * 16 - f * 16) / 2 - 1
def blkT (f n : Nat) : Bool := !blkS (nI f) (nI n) || (decide (n = 0) || (decide (16 < f + n) || (List.range 256).all fun x => gmS 3 (bAd (nI f) (nI n)) (nI x) 0 == (decide (16 * f ≤ x) && decide (x < 16 * (f + n)))))
theorem blk_all : ((List.range 16).all fun f => (List.range 9).all fun n => blkT f n) = true := by decide +kernel
theorem blk_gm {f n x : Nat} (hf : f < 16) (hn1 : 1 ≤ n) (hn : n < 9) (hfn : f + n ≤ 16) (hx : x < 256) (hb : blkS (nI f) (nI n) = true) (b : Int32) : gmS 3 (bAd (nI f) (nI n)) (nI x) b = (decide (16 * f ≤ x) && decide (x < 16 * (f + n))) := by
  rw [gm3 _ _ _ 0]
  have h := all_of (all_of blk_all f hf) n hn
  unfold blkT at h
  rw [hb, decide_eq_false (show ¬ n = 0 by omega), decide_eq_false (show ¬ 16 < f + n by omega)] at h
  simp only [Bool.not_true, Bool.false_or] at h
  exact beq_iff_eq.mp (all_of h x hx)
theorem g0_all : ((List.range 256).all fun x => gmS 3 7 (nI x) 0 == decide (x < 16)) = true := by decide +kernel
theorem g0_gm {x : Nat} (hx : x < 256) (b : Int32) : gmS 3 7 (nI x) b = decide (x < 16) := by
  rw [gm3 _ _ _ 0]
  exact beq_iff_eq.mp (all_of g0_all x hx)
theorem g10_all : ((List.range 256).all fun x => gmS 3 127 (nI x) 0) = true := by decide +kernel
theorem g10_gm {x : Nat} (hx : x < 256) (b : Int32) : gmS 3 127 (nI x) b = true := by
  rw [gm3 _ _ _ 0]
  exact all_of g10_all x hx
def shAd (v : Int32) : Int32 := (v - 256) * 16 + 16 / 2 - 1
theorem gsh_all : ((List.range 16).all fun t => (List.range 256).all fun x => gmS 3 (shAd (nI (256 + t))) (nI x) 0 == decide (x / 16 = t)) = true := by decide +kernel
theorem gsh_gm {t x : Nat} (ht : t < 16) (hx : x < 256) (b : Int32) : gmS 3 (shAd (nI (256 + t))) (nI x) b = decide (x / 16 = t) := by
  rw [gm3 _ _ _ 0]
  exact beq_iff_eq.mp (all_of (all_of gsh_all t ht) x hx)
theorem rng_gm {f n x : Nat} (hfn : f + n ≤ 16) (hx : x < 256) : gmS 1 ((nI f + nI n) * 16) (nI x) (nI f * 16) = (decide (16 * f ≤ x) && decide (x < 16 * (f + n))) := by
  rw [gm1, nI_add, w16, w16]
  have h1 : (!decide (nI x < nI (16 * f))) = decide (16 * f ≤ x) := by
    by_cases h : 16 * f ≤ x
    · rw [decide_eq_true h, decide_eq_false (nI_nlt h (by omega))]; rfl
    · rw [decide_eq_false h, decide_eq_true (nI_lt (by omega) (by omega))]; rfl
  have h2 : (!decide (nI (16 * (f + n)) ≤ nI x)) = decide (x < 16 * (f + n)) := by
    by_cases h : x < 16 * (f + n)
    · rw [decide_eq_true h, decide_eq_false (nI_ge h (by omega))]; rfl
    · rw [decide_eq_false h, decide_eq_true (nI_le (by omega) (by omega))]; rfl
  rw [h1, h2]
/-- the pair of an enclave's guards matches just its words -/
def inE (t : Int32) (f n x : Nat) : Bool := !decide (t = 0) && (decide (16 * f ≤ x) && decide (x < 16 * (f + n)))
theorem up_gm {t : Int32} {f n x : Nat} {r : Int32} (hf : f < 16) (hn1 : 1 ≤ n) (hn : n < 9) (hfn : f + n ≤ 16) (hx : x < 256) : gmS (gUp t (nI f) (nI n) r 0) (gUp t (nI f) (nI n) r 2) (nI x) (gLo t (nI f) (nI n) 2) = inE t f n x := by
  unfold gUp gLo inE
  by_cases ht : t = 0
  · rw [if_pos ht, if_pos ht, if_pos ht, gm0, decide_eq_true ht]; rfl
  · rw [if_neg ht, if_neg ht, if_neg ht, decide_eq_false ht]
    by_cases hb : blkS (nI f) (nI n) = true
    · rw [if_pos hb, if_pos hb, if_pos hb]
      exact (blk_gm hf hn1 hn hfn hx hb 0).trans rfl
    · rw [if_neg hb, if_neg hb, if_neg hb]
      exact (rng_gm hfn hx).trans rfl
theorem up_gm0 {t f n r z b : Int32} (ht : t = 0) : gmS (gUp t f n r 0) (gUp t f n r 2) z b = false := by
  unfold gUp
  rw [if_pos ht, if_pos ht, gm0]
theorem lo_gm {t f n z b : Int32} : gmS (gLo t f n 0) (gLo t f n 2) z b = false := by
  unfold gLo
  by_cases ht : t = 0
  · rw [if_pos ht, if_pos ht, gm0]
  · rw [if_neg ht, if_neg ht]
    by_cases hb : blkS f n = true
    · rw [if_pos hb, if_pos hb, gm0]
    · rw [if_neg hb, if_neg hb]
      exact gm0 _ _ _
theorem up_r {t f n r : Int32} (ht : ¬ t = 0) : gUp t f n r 1 = r := by
  unfold gUp
  rw [if_neg ht]
  split <;> rfl
/-- the shared guard -/
def shX (v : Int32) (x : Nat) : Bool := !decide (v < 0) && (if 256 ≤ v then decide (nI x / 16 = v - 256) else decide (nI x = v))
theorem sh_gm {v : Int32} {x : Nat} {b : Int32} (hv : shS v = true) (hx : x < 256) : gmS (gSh v 0) (gSh v 2) (nI x) b = shX v x := by
  unfold gSh shX
  by_cases h1 : v = -1
  · rw [if_pos h1, if_pos h1, gm0, h1]
    rfl
  · obtain ⟨k, hk, rfl⟩ := shS_ex hv h1
    rw [if_neg h1, if_neg h1, decide_eq_false (nI_pos (by omega))]
    by_cases h2 : k < 256
    · have h3 : ¬ (256 : Int32) ≤ nI k := nI_ge (b := 256) h2 (by decide)
      rw [if_neg h3, if_neg h3, if_neg h3]
      exact (gm2 _ _ _).trans rfl
    · have h3 : (256 : Int32) ≤ nI k := nI_le (a := 256) (by omega) (by omega)
      rw [if_pos h3, if_pos h3, if_pos h3]
      have hk2 : k = 256 + (k - 256) := by omega
      have := gsh_gm (t := k - 256) (x := x) (by omega) hx b
      rw [← hk2] at this
      refine this.trans ?_
      have e1 : nI x / 16 = nI (x / 16) := n16 (by omega)
      have e2 : nI k - 256 = nI (k - 256) := pk_sub (b := 256) (by omega)
      rw [e1, e2]
      simp only [Bool.not_false, Bool.true_and]
      by_cases h4 : x / 16 = k - 256
      · rw [decide_eq_true h4, decide_eq_true (by rw [h4])]
      · rw [decide_eq_false h4, decide_eq_false (fun q => h4 ((nI_eq (by omega) (by omega)).mp q))]
theorem sh_r {v : Int32} (h : ¬ v = -1) : gSh v 1 = 3 := by
  unfold gSh
  rw [if_neg h]
  split <;> rfl
theorem shX_m1 (x : Nat) : shX (-1) x = false := rfl

-- ===== the guards as a function of the rest =====
def tri (j : Nat) (a b c : Int32) : Int32 := if j = 0 then a else if j = 1 then b else c
theorem sG_at {S : St} {i j : Nat} {m r a : Int32} (hj : j < 3) : sG S i m r a i j = tri j m r a := by
  unfold sG tri
  rw [up2_at, up2_at, up2_at]
  have : j = 0 ∨ j = 1 ∨ j = 2 := by omega
  rcases this with rfl | rfl | rfl <;> simp
theorem sB_at {S : St} {i j : Nat} {f w r : Int32} (hj : j < 3) : sB S i f w r i j = tri j 3 r (f + w / 2 - 1) := sG_at hj
/-- the lower and the upper guard of an enclave, from its state, first page, pages -/
def gLo (t f n : Int32) (j : Nat) : Int32 := if t = 0 then 0 else if blkS f n = true then 0 else tri j 0 0 (f * 16)
def gUp (t f n r : Int32) (j : Nat) : Int32 := if t = 0 then 0 else if blkS f n = true then tri j 3 r (f * 16 + ((f + n) * 16 - f * 16) / 2 - 1) else tri j 1 r ((f + n) * 16)
def gSh (v : Int32) (j : Nat) : Int32 := if v = -1 then 0 else if 256 ≤ v then tri j 3 3 ((v - 256) * 16 + 16 / 2 - 1) else tri j 2 3 v
theorem tri0 (j : Nat) : tri j 0 0 0 = 0 := by
  unfold tri
  split
  · rfl
  · split <;> rfl
theorem sEG_lo {S : St} {i lo up j : Nat} {r : Int32} (h : lo ≠ up) (hj : j < 3) : sEG S i lo up r lo j = gLo (S i 1) (S i 2) (S i 3) j := by
  unfold sEG gLo
  split
  · rw [sG_ne h, sG_at hj, tri0]
  · split
    · rw [sB_ne h, sG_at hj, tri0]
    · rw [sG_ne h, sG_at hj]
theorem sEG_up {S : St} {i lo up j : Nat} {r : Int32} (h1 : i ≠ lo) (hj : j < 3) : sEG S i lo up r up j = gUp (S i 1) (S i 2) (S i 3) r j := by
  unfold sEG gUp
  split
  · rw [sG_at hj, tri0]
  · split
    · rw [sB_at hj, sG_ne h1]
    · rw [sG_at hj, sG_ne h1]
theorem gLoop4 (i : Nat) (S : St) : gLoop i 4 0 S = sGe (sGe (sGe (sGe S i 0) i 1) i 2) i 3 := rfl
/-- a guard by its place, of the processor whose cell is i -/
def gsp (S : St) (i k j : Nat) : Int32 :=
  if k = 0 then tri j 3 0 7 else if k = 10 then tri j 3 (if S i 2 = -1 then 7 else 0) 127 else if k = 9 then gSh (shV S i) j
  else if k % 2 = 1 then gLo (S (4 + 2 * ((k - 1) / 2)) 1) (S (4 + 2 * ((k - 1) / 2)) 2) (S (4 + 2 * ((k - 1) / 2)) 3) j
  else gUp (S (4 + 2 * ((k - 1) / 2)) 1) (S (4 + 2 * ((k - 1) / 2)) 2) (S (4 + 2 * ((k - 1) / 2)) 3) (if S i 2 = nI ((k - 1) / 2) then 7 else 0) j
theorem sGe_lo {T : St} {i e j : Nat} (hi : 13 ≤ i) (he : e < 4) (hj : j < 3) : sGe T i e (i + 3 + 1 * (1 + 2 * e)) j = gLo (T (4 + 2 * e) 1) (T (4 + 2 * e) 2) (T (4 + 2 * e) 3) j := sEG_lo (by omega) hj
theorem sGe_up {T : St} {i e j : Nat} (hi : 13 ≤ i) (he : e < 4) (hj : j < 3) : sGe T i e (i + 3 + 1 * (2 + 2 * e)) j = gUp (T (4 + 2 * e) 1) (T (4 + 2 * e) 2) (T (4 + 2 * e) 3) (if T i 2 = nI e then 7 else 0) j := sEG_up (by omega) hj
theorem sGe_oth {T : St} {i e c : Nat} (h1 : c ≠ i + 3 + 1 * (1 + 2 * e)) (h2 : c ≠ i + 3 + 1 * (2 + 2 * e)) : sGe T i e c = T c := sEG_ne h1 h2
/-- a chain of them, read at a guard -/
theorem gch_lo {S : St} {i j : Nat} (hi : 13 ≤ i) (hj : j < 3) : ∀ e, e < 4 → gLoop i 4 0 S (i + 3 + 1 * (1 + 2 * e)) j = gLo (S (4 + 2 * e) 1) (S (4 + 2 * e) 2) (S (4 + 2 * e) 3) j := by
  intro e he
  have h : e = 0 ∨ e = 1 ∨ e = 2 ∨ e = 3 := by omega
  rw [gLoop4]
  rcases h with rfl | rfl | rfl | rfl
  · rw [sGe_oth (by omega) (by omega), sGe_oth (by omega) (by omega), sGe_oth (by omega) (by omega), sGe_lo hi (by omega) hj]
  · rw [sGe_oth (by omega) (by omega), sGe_oth (by omega) (by omega), sGe_lo hi (by omega) hj, sGe_oth (c := 4 + 2 * 1) (by omega) (by omega)]
  · rw [sGe_oth (by omega) (by omega), sGe_lo hi (by omega) hj, sGe_oth (c := 4 + 2 * 2) (by omega) (by omega), sGe_oth (c := 4 + 2 * 2) (by omega) (by omega)]
  · rw [sGe_lo hi (by omega) hj, sGe_oth (c := 4 + 2 * 3) (by omega) (by omega), sGe_oth (c := 4 + 2 * 3) (by omega) (by omega), sGe_oth (c := 4 + 2 * 3) (by omega) (by omega)]
theorem gch_up {S : St} {i j : Nat} (hi : 13 ≤ i) (hj : j < 3) : ∀ e, e < 4 → gLoop i 4 0 S (i + 3 + 1 * (2 + 2 * e)) j = gUp (S (4 + 2 * e) 1) (S (4 + 2 * e) 2) (S (4 + 2 * e) 3) (if S i 2 = nI e then 7 else 0) j := by
  intro e he
  have h : e = 0 ∨ e = 1 ∨ e = 2 ∨ e = 3 := by omega
  rw [gLoop4]
  rcases h with rfl | rfl | rfl | rfl
  · rw [sGe_oth (by omega) (by omega), sGe_oth (by omega) (by omega), sGe_oth (by omega) (by omega), sGe_up hi (by omega) hj]
  · rw [sGe_oth (by omega) (by omega), sGe_oth (by omega) (by omega), sGe_up hi (by omega) hj, sGe_oth (c := 4 + 2 * 1) (by omega) (by omega), sGe_oth (c := i) (by omega) (by omega)]
  · rw [sGe_oth (by omega) (by omega), sGe_up hi (by omega) hj, sGe_oth (c := 4 + 2 * 2) (by omega) (by omega), sGe_oth (c := 4 + 2 * 2) (by omega) (by omega), sGe_oth (c := i) (by omega) (by omega), sGe_oth (c := i) (by omega) (by omega)]
  · rw [sGe_up hi (by omega) hj, sGe_oth (c := 4 + 2 * 3) (by omega) (by omega), sGe_oth (c := 4 + 2 * 3) (by omega) (by omega), sGe_oth (c := 4 + 2 * 3) (by omega) (by omega), sGe_oth (c := i) (by omega) (by omega), sGe_oth (c := i) (by omega) (by omega), sGe_oth (c := i) (by omega) (by omega)]
theorem gch_0 {S : St} {i : Nat} : gLoop i 4 0 S (i + 3 + 1 * 0) = S (i + 3 + 1 * 0) := by
  rw [gLoop4, sGe_oth (by omega) (by omega), sGe_oth (by omega) (by omega), sGe_oth (by omega) (by omega), sGe_oth (by omega) (by omega)]
theorem sSh_9 {S : St} {i j : Nat} (hj : j < 3) : sSh S i (i + 3 + 1 * 9) j = gSh (shV S i) j := by
  unfold sSh gSh
  split
  · rw [sG_at hj, tri0]
  · split
    · rw [sB_at hj]
    · rw [sG_at hj]
theorem sSh_oth {S : St} {i c : Nat} (h : c ≠ i + 3 + 1 * 9) : sSh S i c = S c := by
  unfold sSh
  split
  · exact sG_ne h
  · split
    · exact sB_ne h
    · exact sG_ne h
theorem e7 : (0 : Int32) + 16 / 2 - 1 = 7 := by decide
theorem e127 : (0 : Int32) + 256 / 2 - 1 = 127 := by decide
theorem shV_congr {S T : St} {i : Nat} (h1 : T i 2 = S i 2) (h2 : ∀ e, e < 4 → T (4 + 2 * e) 5 = S (4 + 2 * e) 5) (hp : PeOK S i) : shV T i = shV S i := by
  unfold shV
  rw [h1]
  by_cases h : S i 2 = -1
  · rw [if_pos h, if_pos h]
  · rw [if_neg h, if_neg h]
    exact h2 _ (inr_j (k := 4) rfl (by decide) (hp.resolve_left h))
/-- after sGs the guards are what gsp says of the rest -/
theorem sGs_gsp {S : St} {i : Nat} (hi : 13 ≤ i) (hp : PeOK S i) : ∀ k, k < 11 → ∀ j, j < 3 → sGs S i (i + 3 + 1 * k) j = gsp S i k j := by
  intro k hk j hj
  have hA : ∀ c, c < i + 3 → gLoop i 4 0 (sB S (i + 3 + 1 * 0) 0 16 0) c = S c := fun c hc => by
    rw [gLoop_ne (Or.inl hc) 4 0 _ (by omega), sB_ne (by omega)]
  have hB : ∀ c, c < i + 3 → sB S (i + 3 + 1 * 0) 0 16 0 c = S c := fun c hc => sB_ne (by omega)
  unfold sGs gsp
  by_cases h10 : k = 10
  · subst h10
    rw [sB_at hj, e127, sSh_oth (c := i) (by omega), hA i (by omega)]
    simp
  · rw [sB_ne (by omega)]
    by_cases h9 : k = 9
    · subst h9
      rw [sSh_9 hj, shV_congr (S := S) (by rw [hA i (by omega)]) (fun e he => by rw [hA _ (by omega)]) hp]
      simp
    · rw [sSh_oth (by omega)]
      by_cases h0 : k = 0
      · subst h0
        rw [gch_0, sB_at hj, e7]
        simp
      · rw [if_neg h0, if_neg h10, if_neg h9]
        by_cases hm : k % 2 = 1
        · rw [if_pos hm]
          have hk2 : k = 1 + 2 * ((k - 1) / 2) := by omega
          have := gch_lo (S := sB S (i + 3 + 1 * 0) 0 16 0) hi hj ((k - 1) / 2) (by omega)
          rw [← hk2] at this
          rw [this, hB _ (by omega)]
        · rw [if_neg hm]
          have hk2 : k = 2 + 2 * ((k - 1) / 2) := by omega
          have := gch_up (S := sB S (i + 3 + 1 * 0) 0 16 0) hi hj ((k - 1) / 2) (by omega)
          rw [← hk2] at this
          rw [this, hB _ (by omega), hB i (by omega)]

-- ===== create =====
theorem sh_le {z : Int32} : (!decide (z ≤ 271)) = decide (271 < z) := by
  by_cases h : z ≤ 271
  · rw [decide_eq_true h, decide_eq_false (Int32.not_lt.mpr h)]; rfl
  · rw [decide_eq_false h, decide_eq_true (Int32.not_le.mp h)]; rfl
theorem wr_ok (S : St) (F N en sh : Int32) : wrM F N en sh = !okC S F N en sh := by
  unfold wrM okC arP
  by_cases h1 : N < 1
  · rw [if_pos h1, decide_eq_true h1]; rfl
  rw [if_neg h1, decide_eq_false h1]
  by_cases h2 : 8 < N
  · rw [if_pos h2, decide_eq_true h2]; rfl
  rw [if_neg h2, decide_eq_false h2]
  by_cases h3 : F < 0
  · rw [if_pos h3, show inr F 16 = false by unfold inr; rw [decide_eq_true h3]; rfl]; rfl
  rw [if_neg h3]
  by_cases h4 : 15 < F
  · rw [if_pos h4, show inr F 16 = false from inr_nle (n := 15) (by decide) rfl rfl (Int32.not_le.mpr h4)]; rfl
  rw [if_neg h4]
  have hF := inr_nlt (n := 15) (p := 16) (by decide) rfl rfl h3 h4
  rw [hF]
  obtain ⟨f, hf, rfl⟩ := inr_ex (k := 16) (by decide) rfl hF
  have hN0 : ¬ N < 0 := fun q => h1 (by
    have := Int32.lt_iff_toInt_lt.mp q
    refine Int32.lt_iff_toInt_lt.mpr ?_
    have e0 : (0 : Int32).toInt = 0 := by decide
    have e1 : (1 : Int32).toInt = 1 := by decide
    rw [e0] at this
    rw [e1]
    omega)
  obtain ⟨n, hn, rfl⟩ := inr_ex (k := 9) (by decide) rfl (inr_nlt (n := 8) (p := 9) (by decide) rfl rfl hN0 h2)
  have n1 : 1 ≤ n := by
    by_cases q : 1 ≤ n
    · exact q
    · exact absurd (nI_lt (a := n) (b := 1) (by omega) (by decide)) h1
  have e1 : nI f + nI n - 1 = nI (f + n - 1) := by rw [nI_add, show (1 : Int32) = nI 1 from rfl, pk_sub (by omega)]
  rw [e1, nI_add]
  by_cases h5 : f + n ≤ 16
  · have h5' : nI (f + n) ≤ 16 := nI_le (b := 16) h5 (by decide)
    rw [if_pos h5', show inr (nI (f + n - 1)) 16 = true from inr_nI (k := 16) (by omega) (by decide)]
    unfold onP shS
    rw [nI_add, w16, w16, w16l, w16l]
    by_cases h6 : en < nI (16 * f)
    · rw [if_pos h6, decide_eq_true h6]; rfl
    rw [if_neg h6, decide_eq_false h6]
    by_cases h7 : nI (16 * (f + n)) ≤ en
    · rw [if_pos h7, decide_eq_true h7]; rfl
    rw [if_neg h7, decide_eq_false h7]
    by_cases h8 : sh < -1
    · rw [if_pos h8, decide_eq_true h8]; rfl
    rw [if_neg h8, decide_eq_false h8, sh_le]
    cases decide (271 < sh) <;> rfl
  · have h5' : ¬ nI (f + n) ≤ 16 := nI_ge (a := 16) (by omega) (by omega)
    have h6 : inr (nI (f + n - 1)) 16 = false := by
      cases q : inr (nI (f + n - 1)) 16 with
      | false => rfl
      | true =>
        obtain ⟨g, hg, w⟩ := inr_ex (k := 16) (by decide) rfl q
        have := (nI_eq (by omega) (by omega)).mp w
        omega
    rw [if_neg h5', h6]
    rfl
theorem sys_eq {S M : St} (h : ∀ g, g < 16 → S 2 g = M 2 g) : ∀ (n f : Nat), f + n ≤ 16 → sysP S f n = sysP M f n
  | 0, f, _ => rfl
  | n + 1, f, hn => by
    unfold sysP
    rw [h f (by omega), sys_eq h n (f + 1) (by omega)]
theorem sys_at {S : St} : ∀ (n f : Nat), sysP S f n = true → ∀ g, f ≤ g → g < f + n → S 2 g = 1
  | 0, f, _, g, h1, h2 => by omega
  | n + 1, f, h, g, h1, h2 => by
    unfold sysP at h
    rw [Bool.and_eq_true] at h
    by_cases q : g = f
    · rw [q]; exact of_decide_eq_true h.1
    · exact sys_at n (f + 1) h.2 g (by omega) (by omega)
theorem can_eq {S M : St} (h : ∀ g, g < 16 → S 2 g = M 2 g) {sh : Int32} (hs : shS sh = true) (F N : Int32) : canS S sh F N = canM M sh F N := by
  unfold canS canM
  by_cases h1 : sh = -1
  · rw [decide_eq_true h1, decide_eq_true (show sh < 0 by rw [h1]; decide), Bool.true_or, Bool.true_or]
  · have h2 : ¬ sh < 0 := by
      obtain ⟨k, hk, rfl⟩ := shS_ex hs h1
      exact nI_pos (by omega)
    rw [decide_eq_false h1, decide_eq_false h2, h _ (inr_j (k := 16) rfl (by decide) (canP_in hs h1))]
    cases decide (canP sh < F) <;> cases decide (F + N ≤ canP sh) <;> rfl
theorem lfe_eq {S M : St} (h : ∀ e, e < 4 → S (4 + 2 * e) 1 = M 5 e) : ∀ (n e : Nat), e + n = 4 → lfeS S e n = if lfeM M e n = 4 then -1 else nI (lfeM M e n)
  | 0, e, he => by
    unfold lfeS lfeM
    rw [if_pos (by omega)]
  | n + 1, e, he => by
    unfold lfeS lfeM
    rw [h e (by omega)]
    by_cases q : M 5 e = 0
    · rw [if_pos q, if_pos q, if_neg (by omega)]
    · rw [if_neg q, if_neg q]
      exact lfe_eq h n (e + 1) (by omega)
theorem lfeM_0 {M : St} : ∀ (n e : Nat), e + n = 4 → ¬ lfeM M e n = 4 → M 5 (lfeM M e n) = 0 ∧ lfeM M e n < 4
  | 0, e, he, h => by unfold lfeM at h; omega
  | n + 1, e, he, h => by
    unfold lfeM at h ⊢
    by_cases q : M 5 e = 0
    · rw [if_pos q] at h ⊢; exact ⟨q, by omega⟩
    · rw [if_neg q] at h ⊢
      exact lfeM_0 n (e + 1) (by omega) h
theorem mfold_eq {f g : Nat → Int32} : ∀ (n a : Nat) (m : Int32), (∀ x, a ≤ x → x < a + n → f x = g x) → mfold f n a m = mfold g n a m
  | 0, a, m, _ => by rw [mfold_zero, mfold_zero]
  | n + 1, a, m, h => by
    rw [mfold_succ, mfold_succ, h a (by omega) (by omega)]
    exact mfold_eq n (a + 1) _ (fun x h1 h2 => h x (by omega) (by omega))
theorem mkE1_at {S : St} {i c j : Nat} {F N en sh : Int32} : mkE1 S i F N en sh c j = if c = i ∧ j = 5 then sh else if c = i ∧ j = 4 then en else if c = i ∧ j = 3 then N else if c = i ∧ j = 2 then F else if c = i ∧ j = 1 then 1 else S c j := by
  unfold mkE1
  rw [up2_at, up2_at, up2_at, up2_at, up2_at]
theorem mkM1_at {M : St} {k f n c j : Nat} {F N en sh : Int32} : mkM1 M k f n F N en sh c j = if c = 9 ∧ j = k then sh else if c = 8 ∧ j = k then en else if c = 7 ∧ j = k then N else if c = 6 ∧ j = k then F else if c = 5 ∧ j = k then 1 else if c = 2 ∧ f ≤ j ∧ j < f + n then 2 + nI k else M c j := by
  unfold mkM1
  rw [up2_at, up2_at, up2_at, up2_at, up2_at]
  rfl
/-- the state before the guards are set -/
noncomputable def mkT (S : St) (k f n : Nat) (F N en sh : Int32) : St := fil (up2 (mkE1 S (4 + 2 * k) F N en sh) (4 + 2 * k) 6 (meaS (mkE1 S (4 + 2 * k) F N en sh) (4 + 2 * k) f n)) 2 f (f + n) (2 + nI k)
theorem mkT_at {S : St} {k f n c j : Nat} {F N en sh : Int32} : mkT S k f n F N en sh c j = if c = 2 ∧ f ≤ j ∧ j < f + n then 2 + nI k else if c = 4 + 2 * k ∧ j = 6 then meaS (mkE1 S (4 + 2 * k) F N en sh) (4 + 2 * k) f n else mkE1 S (4 + 2 * k) F N en sh c j := by
  unfold mkT fil
  rw [up2_at]
theorem mkT_oth {S : St} {k f n c j : Nat} {F N en sh : Int32} (h1 : ¬ (c = 2 ∧ f ≤ j ∧ j < f + n)) (h2 : ¬ (c = 4 + 2 * k ∧ 1 ≤ j ∧ j ≤ 6)) : mkT S k f n F N en sh c j = S c j := by
  rw [mkT_at, if_neg h1, if_neg (by omega), mkE1_at, if_neg (by omega), if_neg (by omega), if_neg (by omega), if_neg (by omega), if_neg (by omega)]
theorem mkM_at {M : St} {k f n c j : Nat} {F N en sh : Int32} : mkM M k f n F N en sh c j = if c = 10 ∧ j = k then mfold (mkM1 M k f n F N en sh 1) (16 * n) (16 * f) (mixI N (en - 16 * F)) else mkM1 M k f n F N en sh c j := by
  unfold mkM
  rw [up2_at]
theorem mkM_oth {M : St} {k f n c j : Nat} {F N en sh : Int32} (h1 : ¬ (c = 2 ∧ f ≤ j ∧ j < f + n)) (h2 : ¬ (5 ≤ c ∧ c ≤ 10 ∧ j = k)) : mkM M k f n F N en sh c j = M c j := by
  rw [mkM_at, if_neg (by omega), mkM1_at, if_neg (by omega), if_neg (by omega), if_neg (by omega), if_neg (by omega), if_neg (by omega), if_neg h1]
theorem create_rel {S M : St} {k f n : Nat} {en sh : Int32} (hR : Rel S M) (hk : k < 4) (h0 : M 5 k = 0) (hn1 : 1 ≤ n) (hn : n < 9) (hfn : f + n ≤ 16) (hs : shS sh = true) (hsys : sysP S f n = true) : Rel (sAll (mkT S k f n (nI f) (nI n) en sh)) (mkM M k f n (nI f) (nI n) en sh) := by
  obtain ⟨⟨a1, a2, a3, a4, a5, a6⟩, b, hP, hE, hO, -⟩ := hR
  have hk0 : S (4 + 2 * k) 1 = 0 := by rw [(a6 k hk).1]; exact h0
  have hone := sys_at n f hsys
  have hf1 : 1 ≤ f := by
    by_cases q : 1 ≤ f
    · exact q
    · have := hone 0 (by omega) (by omega)
      rw [hO.1] at this
      exact absurd this (by decide)
  have e2k : 2 + nI k = nI (2 + k) := by rw [show (2 : Int32) = nI 2 from rfl, nI_add]
  have t1 : mkT S k f n (nI f) (nI n) en sh (4 + 2 * k) 1 = 1 := by
    rw [mkT_at, if_neg (by omega), if_neg (by omega), mkE1_at, if_neg (by omega), if_neg (by omega), if_neg (by omega), if_neg (by omega), if_pos ⟨rfl, rfl⟩]
  have t2 : mkT S k f n (nI f) (nI n) en sh (4 + 2 * k) 2 = nI f := by
    rw [mkT_at, if_neg (by omega), if_neg (by omega), mkE1_at, if_neg (by omega), if_neg (by omega), if_neg (by omega), if_pos ⟨rfl, rfl⟩]
  have t3 : mkT S k f n (nI f) (nI n) en sh (4 + 2 * k) 3 = nI n := by
    rw [mkT_at, if_neg (by omega), if_neg (by omega), mkE1_at, if_neg (by omega), if_neg (by omega), if_pos ⟨rfl, rfl⟩]
  have t4 : mkT S k f n (nI f) (nI n) en sh (4 + 2 * k) 4 = en := by
    rw [mkT_at, if_neg (by omega), if_neg (by omega), mkE1_at, if_neg (by omega), if_pos ⟨rfl, rfl⟩]
  have t5 : mkT S k f n (nI f) (nI n) en sh (4 + 2 * k) 5 = sh := by
    rw [mkT_at, if_neg (by omega), if_neg (by omega), mkE1_at, if_pos ⟨rfl, rfl⟩]
  have t6 : mkT S k f n (nI f) (nI n) en sh (4 + 2 * k) 6 = mfold (M 1) (16 * n) (16 * f) (mixI (nI n) (en - 16 * nI f)) := by
    rw [mkT_at, if_neg (by omega), if_pos ⟨rfl, rfl⟩]
    unfold meaS
    rw [show mkE1 S (4 + 2 * k) (nI f) (nI n) en sh (4 + 2 * k) 3 = nI n by rw [mkE1_at, if_neg (by omega), if_neg (by omega), if_pos ⟨rfl, rfl⟩], show mkE1 S (4 + 2 * k) (nI f) (nI n) en sh (4 + 2 * k) 4 = en by rw [mkE1_at, if_neg (by omega), if_pos ⟨rfl, rfl⟩], show mkE1 S (4 + 2 * k) (nI f) (nI n) en sh (4 + 2 * k) 2 = nI f by rw [mkE1_at, if_neg (by omega), if_neg (by omega), if_neg (by omega), if_pos ⟨rfl, rfl⟩], w16, w16l]
    refine mfold_eq _ _ _ (fun x h1 h2 => ?_)
    rw [mkE1_at, if_neg (by omega), if_neg (by omega), if_neg (by omega), if_neg (by omega), if_neg (by omega)]
    exact a3 x (by omega)
  have m5 : mkM M k f n (nI f) (nI n) en sh 5 k = 1 := by
    rw [mkM_at, if_neg (by omega), mkM1_at, if_neg (by omega), if_neg (by omega), if_neg (by omega), if_neg (by omega), if_pos ⟨rfl, rfl⟩]
  have m6 : mkM M k f n (nI f) (nI n) en sh 6 k = nI f := by
    rw [mkM_at, if_neg (by omega), mkM1_at, if_neg (by omega), if_neg (by omega), if_neg (by omega), if_pos ⟨rfl, rfl⟩]
  have m7 : mkM M k f n (nI f) (nI n) en sh 7 k = nI n := by
    rw [mkM_at, if_neg (by omega), mkM1_at, if_neg (by omega), if_neg (by omega), if_pos ⟨rfl, rfl⟩]
  have m8 : mkM M k f n (nI f) (nI n) en sh 8 k = en := by
    rw [mkM_at, if_neg (by omega), mkM1_at, if_neg (by omega), if_pos ⟨rfl, rfl⟩]
  have m9 : mkM M k f n (nI f) (nI n) en sh 9 k = sh := by
    rw [mkM_at, if_neg (by omega), mkM1_at, if_pos ⟨rfl, rfl⟩]
  have m10 : mkM M k f n (nI f) (nI n) en sh 10 k = mfold (M 1) (16 * n) (16 * f) (mixI (nI n) (en - 16 * nI f)) := by
    rw [mkM_at, if_pos ⟨rfl, rfl⟩]
    refine mfold_eq _ _ _ (fun x h1 h2 => ?_)
    rw [mkM1_at, if_neg (by omega), if_neg (by omega), if_neg (by omega), if_neg (by omega), if_neg (by omega), if_neg (by omega)]
  have tf : fE (mkT S k f n (nI f) (nI n) en sh) k = f := by unfold fE; rw [t2, nI_clamp (by omega)]
  have tn : nE (mkT S k f n (nI f) (nI n) en sh) k = n := by unfold nE; rw [t3, nI_clamp (by omega)]
  have to : ∀ e, e < 4 → e ≠ k → ∀ j, mkT S k f n (nI f) (nI n) en sh (4 + 2 * e) j = S (4 + 2 * e) j := fun e he q j => mkT_oth (by omega) (by omega)
  have g2 : ∀ g, f ≤ g → g < f + n → mkT S k f n (nI f) (nI n) en sh 2 g = nI (2 + k) := fun g h1 h2 => by rw [mkT_at, if_pos ⟨rfl, h1, h2⟩]; exact e2k
  have g3 : ∀ g, ¬ (f ≤ g ∧ g < f + n) → mkT S k f n (nI f) (nI n) en sh 2 g = S 2 g := fun g h => mkT_oth (by omega) (by omega)
  refine PR.all ⟨⟨?_, ?_, fun a ha => ?_, fun g hg => ?_, fun p' hp' k' hk' => ?_, fun e he => ?_⟩, fun p' hp' => ?_, ⟨fun p' hp' => ?_, ?_⟩, ⟨fun e he q => ?_, fun e he => ?_⟩, ⟨?_, fun g hg1 hg => ?_, fun e he g hg => ?_⟩⟩
  · rw [mkT_oth (by omega) (by omega), mkM_oth (by omega) (by omega)]; exact a1
  · rw [mkT_oth (by omega) (by omega), mkM_oth (by omega) (by omega)]; exact a2
  · rw [mkT_oth (by omega) (by omega), mkM_oth (by omega) (by omega)]; exact a3 a ha
  · by_cases q : f ≤ g ∧ g < f + n
    · rw [g2 g q.1 q.2, mkM_at, if_neg (by omega), mkM1_at, if_neg (by omega), if_neg (by omega), if_neg (by omega), if_neg (by omega), if_neg (by omega), if_pos ⟨rfl, q.1, q.2⟩, e2k]
    · rw [g3 g q, mkM_oth (by omega) (by omega)]; exact a4 g hg
  · rw [mkT_oth (by omega) (by omega), mkM_oth (by omega) (by omega)]; exact a5 p' hp' k' hk'
  · by_cases q : e = k
    · subst q
      refine ⟨by rw [t1, m5], fun _ => ⟨by rw [t2, m6], by rw [t3, m7], by rw [t4, m8], by rw [t5, m9], by rw [t6, m10]⟩, by rw [mkT_oth (by omega) (by omega), mkM_oth (by omega) (by omega)]; exact (a6 e he).2.2.1, fun w => ?_⟩
      rw [m5] at w
      rcases w with w | w <;> exact absurd w (by decide)
    · exact (a6 e he).of (fun j => to e he q j) (fun k' hk' => mkT_oth (by omega) (by omega)) (fun c h5 h12 => mkM_oth (by omega) (by omega)) (fun k' hk' => mkM_oth (by omega) (by omega))
  · rw [mkT_oth (by omega) (by omega), mkM_oth (by omega) (by omega)]; exact b p' hp'
  · rw [mkT_oth (by omega) (by omega)]
    rcases hP.1 p' hp' with w | ⟨e, he, w1, w2⟩
    · exact Or.inl w
    · have hek : e ≠ k := fun q => by rw [q, hk0] at w2; exact absurd w2 (by decide)
      exact Or.inr ⟨e, he, w1, by rw [to e he hek]; exact w2⟩
  · rw [mkT_oth (by omega) (by omega), mkT_oth (by omega) (by omega)]; exact hP.2
  · by_cases w : e = k
    · subst w
      refine ⟨by rw [t2, tf], by rw [t3, tn], by rw [tn]; exact hn1, by rw [tn]; exact hn, by rw [tf, tn]; exact hfn, by rw [t5]; exact hs⟩
    · rw [to e he w] at q
      obtain ⟨i1, i2, i3, i4, i5, i6⟩ := hE.1 e he q
      unfold EnI fE nE
      rw [to e he w, to e he w, to e he w]
      exact ⟨i1, i2, i3, i4, i5, i6⟩
  · by_cases w : e = k
    · subst w; rw [t1]; exact ⟨1, by decide, rfl⟩
    · rw [to e he w]; exact hE.2 e he
  · rw [g3 0 (by omega)]; exact hO.1
  · by_cases q : f ≤ g ∧ g < f + n
    · exact Or.inr ⟨k, hk, g2 g q.1 q.2⟩
    · rw [g3 g q]; exact hO.2.1 g hg1 hg
  · by_cases w : e = k
    · subst w
      rw [tf, tn, t1]
      by_cases q : f ≤ g ∧ g < f + n
      · rw [g2 g q.1 q.2]
        exact ⟨fun _ => ⟨by decide, q⟩, fun _ => rfl⟩
      · rw [g3 g q]
        exact ⟨fun v => absurd hk0 ((hO.2.2 e he g hg).mp v).1, fun v => absurd v.2 q⟩
    · unfold fE nE
      rw [to e he w, to e he w, to e he w]
      by_cases q : f ≤ g ∧ g < f + n
      · rw [g2 g q.1 q.2]
        have hS := hone g q.1 q.2
        refine ⟨fun v => absurd ((nI_eq (by omega) (by omega)).mp v) (by omega), fun v => ?_⟩
        have := (hO.2.2 e he g hg).mpr v
        rw [hS] at this
        exact absurd ((nI_eq (a := 1) (by decide) (by omega)).mp this) (by omega)
      · rw [g3 g q]; exact hO.2.2 e he g hg
theorem R_create {S M : St} (hR : Rel S M) (z F N en sh : Int32) : vCreate S z F N en sh = wCreate M z F N en sh ∧ Rel (sCreate S z F N en sh) (tCreate M z F N en sh) := by
  unfold vCreate wCreate sCreate tCreate
  rw [busy_eq hR, wr_ok S]
  by_cases h : bsM M z = true
  · rw [if_pos h, if_pos h, if_pos h, if_pos h]; exact ⟨rfl, hR⟩
  rw [if_neg h, if_neg h, if_neg h, if_neg h]
  by_cases h2 : okC S F N en sh = false
  · have h2' : (!okC S F N en sh) = true := by rw [h2]; rfl
    rw [if_pos h2, if_pos h2, if_pos h2', if_pos h2']; exact ⟨rfl, hR⟩
  have h2' : ¬ (!okC S F N en sh) = true := by simpa using h2
  rw [if_neg h2, if_neg h2, if_neg h2', if_neg h2']
  have hok : okC S F N en sh = true := by simpa using h2
  unfold okC at hok
  rw [Bool.and_eq_true, Bool.and_eq_true] at hok
  obtain ⟨f, n, rfl, rfl, hfn, n1, n8⟩ := arP_ex hok.1
  rw [nI_clamp (by omega), nI_clamp (by omega), sys_eq hR.1.2.2.2.1 n f hfn, can_eq hR.1.2.2.2.1 hok.2.2]
  by_cases h3 : sysP M f n = false
  · rw [if_pos h3, if_pos h3, if_pos h3, if_pos h3]; exact ⟨rfl, hR⟩
  rw [if_neg h3, if_neg h3, if_neg h3, if_neg h3]
  by_cases h4 : canM M sh (nI f) (nI n) = false
  · rw [if_pos h4, if_pos h4, if_pos h4, if_pos h4]; exact ⟨rfl, hR⟩
  rw [if_neg h4, if_neg h4, if_neg h4, if_neg h4, lfe_eq (fun e he => (hR.1.2.2.2.2.2 e he).1) 4 0 rfl]
  unfold wCr3 tCr3
  by_cases h5 : lfeM M 0 4 = 4
  · rw [if_pos h5, if_pos h5, if_pos h5, if_pos rfl, if_pos rfl]; exact ⟨rfl, hR⟩
  · obtain ⟨k0, k4⟩ := lfeM_0 4 0 rfl h5
    have hne := m1_ne (k := lfeM M 0 4) (by omega)
    rw [if_neg h5, if_neg h5, if_neg h5, if_neg hne, if_neg hne, nI_clamp (by omega)]
    refine ⟨rfl, ?_⟩
    unfold mkE
    rw [nI_clamp (by omega), nI_clamp (by omega)]
    exact create_rel hR k4 k0 n1 (by omega) hfn hok.2.2 (by rw [sys_eq hR.1.2.2.2.1 n f hfn]; simpa using h3)

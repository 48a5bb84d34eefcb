-- ===== the layout of the class's cells, in the order of their making =====
abbrev St : Type := Nat → Nat → Int32
def flX : List (Option Nat) := [none, some 1, some 2, some 12, some 3, none]
def flG : List (Option Nat) := [none, none, none]
def flP (i : Nat) : List (Option Nat) := [some (i + 1), some (i + 2), none]
def flE (i : Nat) : List (Option Nat) := [some (i + 1), none, none, none, none, none, none, none, none]
def lyX (i : Nat) : ly_C :=
  if i = 0 then .inl (0, flX) else if i = 1 then .inr (.inl 256) else if i = 2 then .inr (.inl 16) else if i = 3 then .inr (.inr (2, 4, 4, 2))
  else if i < 12 then (if i % 2 = 0 then .inl (3, flE i) else .inr (.inl 8)) else if i = 12 then .inr (.inr (1, 2, 13, 14))
  else if (i - 13) % 14 = 0 then .inl (2, flP i) else if (i - 13) % 14 = 1 then .inr (.inl 8) else if (i - 13) % 14 = 2 then .inr (.inr (3, 11, i + 1, 1)) else .inl (1, flG)
abbrev CtX (l : Launch) (D : va_G) (ad : Nat → Nat) (ca : Nat → ClassId) (x : va_W) (y : MethodName) (cc : ByteArray) (nL : Nat) (ret : Option FieldType) (d : Nat) (as : List Value) (S S' : St) (v : Option Value) : Prop := Ct l clX (tyX ca) TT D y cc nL ret (rmd d) as (ly_w lyX 41 ad ca S x) (ly_w lyX 41 ad ca S' x) v
theorem lo_this : LyO lyX 41 0 0 flX := ⟨by decide, rfl⟩
theorem li_mem : LyI lyX 41 1 256 := ⟨by decide, rfl, by decide⟩
theorem li_own : LyI lyX 41 2 16 := ⟨by decide, rfl, by decide⟩
theorem lr_en : LyR lyX 41 3 2 4 4 2 := ⟨by decide, rfl, by decide⟩
theorem lr_pr : LyR lyX 41 12 1 2 13 14 := ⟨by decide, rfl, by decide⟩
def ly_eq (a b : ly_C) : Bool := match a, b with
  | .inl (c, l), .inl (c', l') => c == c' && l == l'
  | .inr (.inl n), .inr (.inl n') => n == n'
  | .inr (.inr (a, b, c, d)), .inr (.inr (a', b', c', d')) => a == a' && (b == b' && (c == c' && d == d'))
  | _, _ => false
theorem ly_eq_iff {u v : ly_C} : ly_eq u v = true ↔ u = v := by
  rcases u with ⟨c, l⟩ | n | ⟨a, b, c, d⟩ <;> rcases v with ⟨c', l'⟩ | n' | ⟨a', b', c', d'⟩ <;> simp [ly_eq]
theorem lo_en_all : ∀ e, e < 4 → (decide (4 + 2 * e < 41) && ly_eq (lyX (4 + 2 * e)) (.inl (3, flE (4 + 2 * e)))) = true := by decide
theorem ly_two {p : Bool} {a b : ly_C} {P : Prop} (hp : p = true → P) (h : (p && ly_eq a b) = true) : P ∧ a = b := by
  rw [Bool.and_eq_true] at h
  exact ⟨hp h.1, ly_eq_iff.mp h.2⟩
theorem lo_en {e : Nat} (h : e < 4) : LyO lyX 41 (4 + 2 * e) 3 (flE (4 + 2 * e)) := ly_two (by simp) (lo_en_all e h)
theorem lo_pr_all : ∀ p, p < 2 → (decide (13 + 14 * p < 41) && ly_eq (lyX (13 + 14 * p)) (.inl (2, flP (13 + 14 * p)))) = true := by decide
theorem lo_pr {p : Nat} (h : p < 2) : LyO lyX 41 (13 + 14 * p) 2 (flP (13 + 14 * p)) := ly_two (by simp) (lo_pr_all p h)
theorem li_er_all : ∀ i, i < 41 → ly_eq (lyX i) (.inl (3, flE i)) = true → (decide (i + 1 < 41) && ly_eq (lyX (i + 1)) (.inr (.inl 8))) = true := by decide +kernel
theorem li_er {i : Nat} (L : LyO lyX 41 i 3 (flE i)) : LyI lyX 41 (i + 1) 8 := by
  obtain ⟨h1, h2⟩ := ly_two (P := i + 1 < 41) (by simp) (li_er_all i L.1 (ly_eq_iff.mpr L.2))
  exact ⟨h1, h2, by decide⟩
theorem li_rg_all : ∀ i, i < 41 → ly_eq (lyX i) (.inl (2, flP i)) = true → (decide (i + 1 < 41) && ly_eq (lyX (i + 1)) (.inr (.inl 8))) = true := by decide +kernel
theorem li_rg {i : Nat} (L : LyO lyX 41 i 2 (flP i)) : LyI lyX 41 (i + 1) 8 := by
  obtain ⟨h1, h2⟩ := ly_two (P := i + 1 < 41) (by simp) (li_rg_all i L.1 (ly_eq_iff.mpr L.2))
  exact ⟨h1, h2, by decide⟩
theorem lr_gd_all : ∀ i, i < 41 → ly_eq (lyX i) (.inl (2, flP i)) = true → (decide (i + 2 < 41) && ly_eq (lyX (i + 2)) (.inr (.inr (3, 11, i + 3, 1)))) = true := by decide +kernel
theorem lr_gd {i : Nat} (L : LyO lyX 41 i 2 (flP i)) : LyR lyX 41 (i + 2) 3 11 (i + 3) 1 := by
  obtain ⟨h1, h2⟩ := ly_two (P := i + 2 < 41) (by simp) (lr_gd_all i L.1 (ly_eq_iff.mpr L.2))
  exact ⟨h1, h2, by decide⟩
theorem lo_gd_all : ∀ i, i < 41 → ly_eq (lyX i) (.inl (2, flP i)) = true → ∀ k, k < 11 → (decide (i + 3 + 1 * k < 41) && ly_eq (lyX (i + 3 + 1 * k)) (.inl (1, flG))) = true := by decide +kernel
theorem lo_gd {i k : Nat} (L : LyO lyX 41 i 2 (flP i)) (hk : k < 11) : LyO lyX 41 (i + 3 + 1 * k) 1 flG := ly_two (by simp) (lo_gd_all i L.1 (ly_eq_iff.mpr L.2) k hk)
-- ===== what the class's methods answer and do, as functions of the ints S =====
def inr (z n : Int32) : Bool := !decide (z < 0) && !decide (n ≤ z)
theorem inr_ex {z n : Int32} {k : Nat} (hk : k < 2 ^ 31) (hn : nI k = n) (h : inr z n = true) : ∃ j, j < k ∧ z = nI j := by
  subst hn
  simp only [inr, Bool.and_eq_true, Bool.not_eq_true', decide_eq_false_iff_not] at h
  rcases pk_ix z hk with h1 | h1 | h1
  · exact absurd h1 h.1
  · exact absurd h1 h.2
  · exact h1
theorem inr_z {z n : Int32} (h : inr z n = true) : z = nI z.toNatClampNeg := by
  simp only [inr, Bool.and_eq_true, Bool.not_eq_true', decide_eq_false_iff_not] at h
  obtain ⟨j, hj, rfl⟩ := nI_of h.1
  rw [nI_clamp hj]
theorem inr_j {z n : Int32} {k : Nat} (hn : nI k = n) (hk : k < 2 ^ 31) (h : inr z n = true) : z.toNatClampNeg < k := by
  obtain ⟨j, hj, rfl⟩ := inr_ex hk hn h
  rw [nI_clamp (by omega)]
  exact hj
theorem inr_nI {j k : Nat} (h : j < k) (hk : k < 2 ^ 31) : inr (nI j) (nI k) = true := by
  simp [inr, nI_pos (show j < 2 ^ 31 by omega), nI_ge h hk]
def shS (z : Int32) : Bool := !decide (z < -1) && !decide (271 < z)
def onP (a f n : Int32) : Bool := !decide (a < f * 16) && !decide ((f + n) * 16 ≤ a)
def arP (f n : Int32) : Bool := !decide (n < 1) && (!decide (8 < n) && (inr f 16 && inr (f + n - 1) 16))
def mixR (a b : Int32) : Int32 := ((31 * a ^^^ b) * 668265263) ^^^ ((((31 * a ^^^ b) * 668265263)).toUInt32 >>> ((15 : Int32).toUInt32 &&& Int32.toUInt32 31)).toInt32
theorem mix_ex : ∃ g : Int32 → Int32 → Int32, ∀ a b, g a b = mixR a b := ⟨mixR, fun _ _ => rfl⟩
/-- the mixing function, closed: nothing unfolds it -/
noncomputable def mixI : Int32 → Int32 → Int32 := Classical.choose mix_ex
theorem mixI_eq (a b : Int32) : mixI a b = mixR a b := Classical.choose_spec mix_ex a b
def busyS (S : St) (q : Int32) : Bool := !inr q 2 || !decide (S (13 + 14 * q.toNatClampNeg) 2 = -1)
def runsS (S : St) (q : Int32) : Bool := inr q 2 && !decide (S (13 + 14 * q.toNatClampNeg) 2 = -1)
def thrS (S : St) (e : Int32) : Bool := inr e 4 && !decide (S (4 + 2 * e.toNatClampNeg) 1 = 0)
theorem busy_in {S : St} {q : Int32} (h : busyS S q = false) : inr q 2 = true := by
  simp only [busyS, Bool.or_eq_false_iff] at h
  simpa using h.1
theorem busy_no {S : St} {q : Int32} (h : busyS S q = false) : S (13 + 14 * q.toNatClampNeg) 2 = -1 := by
  simp only [busyS, Bool.or_eq_false_iff] at h
  simpa using h.2
theorem runs_in {S : St} {q : Int32} (h : runsS S q = true) : inr q 2 = true := by
  simp only [runsS, Bool.and_eq_true] at h
  exact h.1
theorem runs_no {S : St} {q : Int32} (h : runsS S q = true) : ¬ S (13 + 14 * q.toNatClampNeg) 2 = -1 := by
  simp only [runsS, Bool.and_eq_true] at h
  simpa using h.2
theorem thr_in {S : St} {e : Int32} (h : thrS S e = true) : inr e 4 = true := by
  simp only [thrS, Bool.and_eq_true] at h
  exact h.1
theorem thr_no {S : St} {e : Int32} (h : thrS S e = true) : ¬ S (4 + 2 * e.toNatClampNeg) 1 = 0 := by
  simp only [thrS, Bool.and_eq_true] at h
  simpa using h.2
-- guards
def sG (S : St) (i : Nat) (m r a : Int32) : St := up2 (up2 (up2 S i 0 m) i 1 r) i 2 a
def sB (S : St) (i : Nat) (f w r : Int32) : St := sG S i 3 r (f + w / 2 - 1)
def gmS (mode addr z b : Int32) : Bool :=
  if mode = 1 then !decide (z < b) && !decide (addr ≤ z) else if mode = 2 then decide (z = addr) else if mode = 3 then decide (z ||| (addr ^^^ (addr + 1)) = addr ||| (addr ^^^ (addr + 1))) else false
-- enclaves
def blkS (f n : Int32) : Bool := decide (n &&& (n - 1) = 0) && decide (f &&& (n - 1) = 0)
def sEnd (S : St) (i : Nat) (t v : Int32) : St := up2 (up2 S i 1 t) i 8 v
def fil (S : St) (c a b : Nat) (v : Int32) : St := fun c' j => if c' = c ∧ a ≤ j ∧ j < b then v else S c' j
theorem fil_nil (S : St) (c a : Nat) (v : Int32) : fil S c a a v = S := by
  funext c' j
  unfold fil
  rw [if_neg (by omega)]
theorem fil_up {S : St} {c a k : Nat} {v : Int32} (h : a ≤ k) : up2 (fil S c a k v) c k v = fil S c a (k + 1) v := by
  funext c' j
  rw [up2_at]
  unfold fil
  by_cases h1 : c' = c ∧ j = k
  · rw [if_pos h1, if_pos ⟨h1.1, by omega, by omega⟩]
  · rw [if_neg h1]
    by_cases h2 : c' = c ∧ a ≤ j ∧ j < k
    · rw [if_pos h2, if_pos ⟨h2.1, h2.2.1, by omega⟩]
    · rw [if_neg h2, if_neg (by omega)]
def sStart (S : St) (i : Nat) (v : Int32) : St := up2 (up2 (fil S (i + 1) 0 8 0) (i + 1) 1 v) i 7 (up2 (fil S (i + 1) 0 8 0) (i + 1) 1 v i 4)

-- pages, owners, measure
def sysP (S : St) : Nat → Nat → Bool
  | _, 0 => true
  | f, n + 1 => decide (S 2 f = 1) && sysP S (f + 1) n
def canP (z : Int32) : Int32 := if z < 256 then z / 16 else z - 256
def canS (S : St) (z f n : Int32) : Bool := decide (z = -1) || (decide (S 2 (canP z).toNatClampNeg = 1) && !(!decide (canP z < f) && !decide (f + n ≤ canP z)))
def lfeS (S : St) : Nat → Nat → Int32
  | _, 0 => -1
  | e, n + 1 => if S (4 + 2 * e) 1 = 0 then nI e else lfeS S (e + 1) n
noncomputable def mfold (f : Nat → Int32) : Nat → Nat → Int32 → Int32
  | 0, _, m => m
  | n + 1, a, m => mfold f n (a + 1) (mixI m (f a))
theorem mfold_succ (f : Nat → Int32) (n a : Nat) (m : Int32) : mfold f (n + 1) a m = mfold f n (a + 1) (mixI m (f a)) := by rw [mfold]
theorem mfold_zero (f : Nat → Int32) (a : Nat) (m : Int32) : mfold f 0 a m = m := by rw [mfold]
noncomputable def meaS (S : St) (i f n : Nat) : Int32 := mfold (S 1) (16 * n) (16 * f) (mixI (S i 3) (S i 4 - S i 2 * 16))
noncomputable def prfS (k m d : Int32) : Int32 := mixI (mixI (mixI k 3) m) d
noncomputable def secS (k m : Int32) : Int32 := mixI (mixI k 7) m
-- may an access be made
def befS (S : St) (i k : Nat) : Int32 := if k = 0 then 0 else S (i + 3 + 1 * (k - 1)) 2
def alG (S : St) (i : Nat) (z r : Int32) : Nat → Nat → Bool
  | 0, _ => false
  | n + 1, k => if gmS (S (i + 3 + 1 * k) 0) (S (i + 3 + 1 * k) 2) z (befS S i k) = true then !decide (S (i + 3 + 1 * k) 1 &&& r = 0) else alG S i z r n (k + 1)
theorem alG_t {S : St} {i n k : Nat} {z r : Int32} (h : gmS (S (i + 3 + 1 * k) 0) (S (i + 3 + 1 * k) 2) z (befS S i k) = true) : alG S i z r (n + 1) k = !decide (S (i + 3 + 1 * k) 1 &&& r = 0) := by rw [alG, if_pos h]
theorem alG_f {S : St} {i n k : Nat} {z r : Int32} (h : gmS (S (i + 3 + 1 * k) 0) (S (i + 3 + 1 * k) 2) z (befS S i k) = false) : alG S i z r (n + 1) k = alG S i z r n (k + 1) := by rw [alG, if_neg (by rw [h]; decide)]
def alw (S : St) (i : Nat) (z r : Int32) : Bool := inr z 256 && alG S i z r 11 0
theorem alw_in {S : St} {i : Nat} {z r : Int32} (h : alw S i z r = true) : inr z 256 = true := by
  simp only [alw, Bool.and_eq_true] at h
  exact h.1
-- the guards set
def sEG (S : St) (i lo up : Nat) (r : Int32) : St :=
  if S i 1 = 0 then sG (sG S lo 0 0 0) up 0 0 0
  else if blkS (S i 2) (S i 3) = true then sB (sG S lo 0 0 0) up (sG S lo 0 0 0 i 2 * 16) ((sG S lo 0 0 0 i 2 + sG S lo 0 0 0 i 3) * 16 - sG S lo 0 0 0 i 2 * 16) r
  else sG (sG S lo 0 0 (S i 2 * 16)) up 1 r ((sG S lo 0 0 (S i 2 * 16) i 2 + sG S lo 0 0 (S i 2 * 16) i 3) * 16)
def sGe (S : St) (i e : Nat) : St := sEG S (4 + 2 * e) (i + 3 + 1 * (1 + 2 * e)) (i + 3 + 1 * (2 + 2 * e)) (if S i 2 = nI e then 7 else 0)
def gLoop (i : Nat) : Nat → Nat → St → St
  | 0, _, S => S
  | n + 1, e, S => gLoop i n (e + 1) (sGe S i e)
def shV (S : St) (i : Nat) : Int32 := if S i 2 = -1 then -1 else S (4 + 2 * (S i 2).toNatClampNeg) 5
def sSh (S : St) (i : Nat) : St :=
  if shV S i = -1 then sG S (i + 3 + 1 * 9) 0 0 0 else if 256 ≤ shV S i then sB S (i + 3 + 1 * 9) ((shV S i - 256) * 16) 16 3 else sG S (i + 3 + 1 * 9) 2 3 (shV S i)
def sGs (S : St) (i : Nat) : St :=
  sB (sSh (gLoop i 4 0 (sB S (i + 3 + 1 * 0) 0 16 0)) i) (i + 3 + 1 * 10) 0 256 (if sSh (gLoop i 4 0 (sB S (i + 3 + 1 * 0) 0 16 0)) i i 2 = -1 then 7 else 0)
def sAll (S : St) : St := sGs (sGs S (13 + 14 * 0)) (13 + 14 * 1)

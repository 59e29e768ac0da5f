/-! the people's answers -/
/-- the set of the p below n with f p, as a number -/
def osum (f : Nat → Bool) : Nat → Nat
  | 0 => 0
  | p + 1 => osum f p + (if f p = true then 2 ^ p else 0)
theorem osum_lt (f : Nat → Bool) : ∀ n : Nat, osum f n < 2 ^ n
  | 0 => by simp [osum]
  | n + 1 => by
    have h := osum_lt f n
    have e : 2 ^ (n + 1) = 2 ^ n + 2 ^ n := by rw [Nat.pow_succ]; omega
    rw [osum]
    split <;> omega
theorem osum_congr {f g : Nat → Bool} : ∀ {n : Nat}, (∀ p, p < n → f p = g p) → osum f n = osum g n
  | 0, _ => rfl
  | n + 1, h => by
    rw [osum, osum, osum_congr (n := n) (fun p hp => h p (by omega)), h n (by omega)]
theorem osum_bit (f : Nat → Bool) : ∀ (n p : Nat), (osum f n).testBit p = (decide (p < n) && f p)
  | 0, p => by simp [osum]
  | n + 1, p => by
    have h := osum_lt f n
    have ih := osum_bit f n p
    rw [osum]
    by_cases hf : f n = true
    · rw [if_pos hf, show osum f n + 2 ^ n = 2 ^ n + osum f n by omega]
      by_cases hp : p < n
      · rw [Nat.testBit_two_pow_add_gt hp, ih]
        simp [hp, show p < n + 1 by omega]
      · by_cases he : p = n
        · subst he
          rw [Nat.testBit_two_pow_add_eq, ih]
          simp [hf]
        · have hb : 2 ^ n + osum f n < 2 ^ p := Nat.lt_of_lt_of_le (show 2 ^ n + osum f n < 2 ^ (n + 1) by rw [Nat.pow_succ]; omega) (Nat.pow_le_pow_right (by omega) (by omega))
          rw [Nat.testBit_lt_two_pow hb]
          simp [show ¬ p < n + 1 by omega]
    · rw [if_neg hf, Nat.add_zero, ih]
      by_cases he : p = n
      · subst he
        simp [hf]
      · by_cases hp : p < n
        · simp [hp, show p < n + 1 by omega]
        · simp [hp, show ¬ p < n + 1 by omega]
/-- how many of the lowest k bits -/
def bcn (l : Nat) : Nat → Nat
  | 0 => 0
  | k + 1 => bcn l k + (l.testBit k).toNat
theorem bcn_le (l : Nat) : ∀ k : Nat, bcn l k ≤ k
  | 0 => Nat.le_refl 0
  | k + 1 => by
    have h := bcn_le l k
    rw [bcn]
    cases l.testBit k <;> simp <;> omega
/-- whether p has done it by the letter l, those of b the day before -/
def dz (kd wh mn : Nat → Nat) (p l b : Nat) : Bool := if kd p = 2 then !l.testBit (wh p) else if kd p = 4 then decide (mn p ≤ bcn l 6) else if kd p = 5 then l.testBit (wh p) == b.testBit p else l.testBit (wh p)
/-- the same, but one (o) is another: 0 himself, 1 always, 2 never -/
def dO (kd wh mn : Nat → Nat) (o : Int32) (how : Nat) (p l b : Nat) : Bool := if nI p = o then (decide (how = 1) || (decide (how = 0) && l.testBit p)) else dz kd wh mn p l b
theorem s_l' : ∀ n, n < 31 → ((nI n &&& 31).toBitVec.smod 32).toNat = n := by decide +kernel
theorem bt_n {l w : Nat} (hl : l < 2 ^ 31) (hw : w < 31) : (nI l >>> (nI w &&& 31)) &&& 1 = xb (l.testBit w) := by
  have h1 : nI l >>> (nI w &&& 31) = nI (l / 2 ^ w) := pk_shrN hl _ w (s_l' w hw)
  rw [h1, pk_andN (n := l / 2 ^ w) (Nat.lt_of_le_of_lt (Nat.div_le_self _ _) (by omega)) 1 (by decide), Nat.testBit_eq_decide_div_mod_eq]
  rcases Nat.mod_two_eq_zero_or_one (l / 2 ^ w) with e | e
  · simp [e, xb, nI]
  · simp [e, xb, nI]
theorem xb_is1 {c : Bool} : xb c = 1 ↔ c = true := by cases c <;> simp [xb]
theorem xb_not1 {c : Bool} (h : ¬ xb c = 1) : c = false := by cases c <;> simp [xb] at h ⊢
theorem xb_no {c : Bool} : ¬ xb c = 1 ↔ c = false := by cases c <;> simp [xb]
theorem xb_inj {c d : Bool} : xb c = xb d ↔ c = d := by cases c <;> cases d <;> simp [xb]
theorem or_p : ∀ p, p < 6 → ∀ s, s < 2 ^ p → (nI s ||| ((1 : Int32) <<< (nI p &&& 31))) = nI (s + 2 ^ p) := by decide +kernel
theorem pw6 : ∀ p, p ≤ 6 → ((1 : Int32) <<< (nI p &&& 31)) = nI (2 ^ p) := by decide +kernel
theorem pw_le {n : Nat} (h : n ≤ 6) : 2 ^ n ≤ 64 := Nat.pow_le_pow_right (by omega) h
/-- who has done it -/
def dn (kd wh mn : Nat → Nat) (np l b : Nat) : Nat := osum (fun p => dz kd wh mn p l b) np
def dnO (kd wh mn : Nat → Nat) (np : Nat) (o : Int32) (how l b : Nat) : Nat := osum (fun p => dO kd wh mn o how p l b) np
theorem dnO_n {kd wh mn : Nat → Nat} {np how l b : Nat} (h : np ≤ 6) : dnO kd wh mn np (-1) how l b = dn kd wh mn np l b := osum_congr (fun p hp => by
  have h1 : ¬ nI p = -1 := by
    rw [i32_eq, nI_toInt (by omega), k32_m1]
    omega
  rw [dO, if_neg h1])
/-- how many below n -/
def cntB (P : Nat → Bool) : Nat → Nat
  | 0 => 0
  | n + 1 => cntB P n + (P n).toNat
theorem cntB_le (P : Nat → Bool) : ∀ n : Nat, cntB P n ≤ n
  | 0 => Nat.le_refl 0
  | n + 1 => by
    have h := cntB_le P n
    rw [cntB]
    cases P n <;> simp <;> omega
theorem cntB_mono (P : Nat → Bool) : ∀ (j n : Nat), cntB P n ≤ cntB P (n + j)
  | 0, n => Nat.le_refl _
  | j + 1, n => Nat.le_trans (cntB_mono P j n) (by show cntB P (n + j) ≤ cntB P (n + j) + _; omega)
theorem cntB_congr {P Q : Nat → Bool} : ∀ {n : Nat}, (∀ l, l < n → P l = Q l) → cntB P n = cntB Q n
  | 0, _ => rfl
  | n + 1, h => by rw [cntB, cntB, cntB_congr (n := n) (fun l hl => h l (by omega)), h n (by omega)]
/-- the first below n -/
def fstB (Q : Nat → Bool) : Nat → Option Nat
  | 0 => none
  | n + 1 => match fstB Q n with
    | some l => some l
    | none => if Q n = true then some n else none
theorem fstB_none {Q : Nat → Bool} : ∀ {n : Nat}, (∀ l, l < n → Q l = false) → fstB Q n = none
  | 0, _ => rfl
  | n + 1, h => by
    rw [fstB, fstB_none (n := n) (fun l hl => h l (by omega))]
    simp [h n (by omega)]
theorem fstB_some {Q : Nat → Bool} {k : Nat} (hk : Q k = true) (h : ∀ l, l < k → Q l = false) : ∀ {n : Nat}, k < n → fstB Q n = some k
  | n + 1, hn => by
    rw [fstB]
    by_cases e : k = n
    · subst e
      rw [fstB_none h]
      simp [hk]
    · rw [fstB_some hk h (n := n) (by omega)]
theorem fstB_congr {P Q : Nat → Bool} : ∀ {n : Nat}, (∀ l, l < n → P l = Q l) → fstB P n = fstB Q n
  | 0, _ => rfl
  | n + 1, h => by rw [fstB, fstB, fstB_congr (n := n) (fun l hl => h l (by omega)), h n (by omega)]
theorem fstB_lt {Q : Nat → Bool} : ∀ {n k : Nat}, fstB Q n = some k → k < n ∧ Q k = true
  | n + 1, k, h => by
    rw [fstB] at h
    cases e : fstB Q n with
    | some l =>
      rw [e] at h
      cases h
      have h9 := fstB_lt (n := n) e
      exact ⟨by omega, h9.2⟩
    | none =>
      rw [e] at h
      by_cases hq : Q n = true
      · simp [hq] at h
        subst h
        exact ⟨by omega, hq⟩
      · simp [hq] at h
/-- an answer that may be none -/
def oN (o : Option Nat) : Int32 := match o with
  | some l => nI l
  | none => -1000000
theorem xr_lve {Γ : xΓ} {Ω : xW} {nL : Nat} {Q : State → Prop} {pc : Nat} {lv lv' : List (Nat × Value)} {st : List Value} {h : xH} {sz k n : Nat} (e : lv = lv') (kk : xG Γ Ω nL Q pc lv' st h sz k n) : xG Γ Ω nL Q pc lv st h sz k n := e ▸ kk

/-! the answers, as functions of the town -/
def agr (kd wh mn : Nat → Nat) (np b : Nat) : Nat → Bool := fun l => decide (dn kd wh mn np l b = l)
def a_done (kd wh mn : Nat → Nat) (np b : Nat) (s : Int32) : Int32 := if 0 < np then (if 0 ≤ s.toInt ∧ s.toInt < (2 ^ np : Nat) then nI (dn kd wh mn np s.toNatClampNeg b) else -1000001) else -1000002
def ithP (P : Nat → Bool) (i : Int) : Nat → Bool := fun l => P l && decide ((cntB P l : Int) = i)
def a_agr1 (P : Nat → Bool) (N : Nat) (i : Int32) : Int32 := if i.toInt = -1 then nI (cntB P N) else oN (fstB (ithP P i.toInt) N)
def a_agreeing (kd wh mn : Nat → Nat) (np b : Nat) (i : Int32) : Int32 := if 0 < np then (if i.toInt < -1 then -1000001 else a_agr1 (agr kd wh mn np b) (2 ^ np) i) else -1000002
/-- the fullest -/
def fuC (P : Nat → Bool) (n : Nat) (o : Option Nat) : Bool := P n && (match o with | none => true | some q => decide (bcn q 6 < bcn n 6))
def fuS (P : Nat → Bool) : Nat → Option Nat
  | 0 => none
  | n + 1 => if fuC P n (fuS P n) = true then some n else fuS P n
theorem fuS_lt {P : Nat → Bool} : ∀ {n q : Nat}, fuS P n = some q → q < n
  | n + 1, q, h => by
    rw [fuS] at h
    by_cases c : fuC P n (fuS P n) = true
    · rw [if_pos c] at h
      cases h
      omega
    · rw [if_neg c] at h
      have := fuS_lt (n := n) h
      omega
def a_fullest (kd wh mn : Nat → Nat) (np b : Nat) : Int32 := if 0 < np then oN (fuS (agr kd wh mn np b) (2 ^ np)) else -1000002
/-- whether some letter agrees, one (o) being another -/
def exL (kd wh mn : Nat → Nat) (np b : Nat) (o : Int32) (how : Nat) : Bool := (fstB (fun l => decide (dnO kd wh mn np o how l b = l)) (2 ^ np)).isSome
def cuP (kd wh mn : Nat → Nat) (np b : Nat) (w : Int) : Nat → Bool := fun p => if w = 0 then exL kd wh mn np b (nI p) 0 else (!exL kd wh mn np b (nI p) 1 || !exL kd wh mn np b (nI p) 2)
def a_culprits (kd wh mn : Nat → Nat) (np b : Nat) (w : Int32) : Int32 := if 0 < np then (if 0 ≤ w.toInt ∧ w.toInt ≤ 1 then nI (osum (cuP kd wh mn np b w.toInt) np) else -1000001) else -1000002
/-- how many (0), the least (1) -/
def a_two (P : Nat → Bool) (N : Nat) (w : Int32) : Int32 := if w.toInt = 0 then nI (cntB P N) else oN (fstB P N)
def loP (kd wh mn : Nat → Nat) (np b s : Nat) : Nat → Bool := fun l => decide (dn kd wh mn np l b = s)
def reP (kd wh mn : Nat → Nat) (np b s : Nat) : Nat → Bool := fun l => decide (((dn kd wh mn np l b) &&& s ||| (b &&& (63 ^^^ s))) = l)
def a_lost (kd wh mn : Nat → Nat) (np b : Nat) (s w : Int32) : Int32 := if 0 < np then (if 0 ≤ s.toInt ∧ s.toInt < (2 ^ np : Nat) ∧ 0 ≤ w.toInt ∧ w.toInt ≤ 1 then a_two (loP kd wh mn np b s.toNatClampNeg) (2 ^ np) w else -1000001) else -1000002
def a_readBy (kd wh mn : Nat → Nat) (np b : Nat) (s w : Int32) : Int32 := if 0 < np then (if 0 ≤ s.toInt ∧ s.toInt < (2 ^ np : Nat) ∧ 0 ≤ w.toInt ∧ w.toInt ≤ 1 then a_two (reP kd wh mn np b s.toNatClampNeg) (2 ^ np) w else -1000001) else -1000002
/-- a product -/
def prB (f : Nat → Nat) : Nat → Nat
  | 0 => 1
  | n + 1 => prB f n * f n
theorem prB_le {f : Nat → Nat} {c : Nat} (h : ∀ p, f p ≤ c) : ∀ n : Nat, prB f n ≤ c ^ n
  | 0 => Nat.le_refl 1
  | n + 1 => by
    rw [prB, Nat.pow_succ]
    exact Nat.mul_le_mul (prB_le h n) (h n)
def odP (kd wh mn : Nat → Nat) (b l s : Nat) : Nat → Nat := fun p => if kd p = 3 then (if (dz kd wh mn p l b == s.testBit p) = true then 10 - mn p else mn p) else (if (dz kd wh mn p l b == s.testBit p) = true then 1 else 0)
def odA (kd : Nat → Nat) : Nat → Nat := fun p => if kd p = 3 then 10 else 1
def ods (kd wh mn : Nat → Nat) (np b l s : Nat) : Nat := prB (odP kd wh mn b l s) np
def odi (kd : Nat → Nat) (np : Nat) : Nat := prB (odA kd) np
theorem odA_pos (kd : Nat → Nat) : ∀ n : Nat, 0 < prB (odA kd) n
  | 0 => Nat.one_pos
  | n + 1 => by
    rw [prB]
    refine Nat.mul_pos (odA_pos kd n) ?_
    unfold odA
    split <;> omega
def a_comes (kd wh mn : Nat → Nat) (np b : Nat) (l s w : Int32) : Int32 := if 0 < np then (if 0 ≤ l.toInt ∧ l.toInt < (2 ^ np : Nat) ∧ 0 ≤ s.toInt ∧ s.toInt < (2 ^ np : Nat) ∧ 0 ≤ w.toInt ∧ w.toInt ≤ 1 then nI ((if w.toInt = 0 then ods kd wh mn np b l.toNatClampNeg s.toNatClampNeg else odi kd np) / Nat.gcd (ods kd wh mn np b l.toNatClampNeg s.toNatClampNeg) (odi kd np)) else -1000001) else -1000002
/-- the likeliest of the first n + 1 -/
def liS (f : Nat → Nat) : Nat → Nat
  | 0 => 0
  | n + 1 => if f (liS f n) < f (n + 1) then n + 1 else liS f n
theorem liS_le (f : Nat → Nat) : ∀ n : Nat, liS f n ≤ n
  | 0 => Nat.le_refl 0
  | n + 1 => by
    rw [liS]
    split
    · omega
    · have := liS_le f n; omega
def a_likeliest (kd wh mn : Nat → Nat) (np b : Nat) : Int32 := if 0 < np then nI (liS (fun l => ods kd wh mn np b l l) (2 ^ np - 1)) else -1000002
/-- the first from k on -/
def fsK (P : Nat → Bool) (N k : Nat) : Option Nat := fstB (fun l => decide (k ≤ l) && P l) N
theorem fsK_t {P : Nat → Bool} {N k : Nat} (h : P k = true) (hk : k < N) : fsK P N k = some k := fstB_some (by simp [h]) (fun l hl => by simp [show ¬ k ≤ l by omega]) hk
theorem fsK_f {P : Nat → Bool} {N k : Nat} (h : P k = false) : fsK P N k = fsK P N (k + 1) := fstB_congr (fun l _ => by
  by_cases e : l = k
  · subst e; simp [h]
  · by_cases e2 : k ≤ l
    · simp [e2, show k + 1 ≤ l by omega]
    · simp [e2, show ¬ k + 1 ≤ l by omega])
theorem fsK_0 (P : Nat → Bool) (N : Nat) : fsK P N 0 = fstB P N := fstB_congr (fun l _ => by simp)
theorem fsK_N (P : Nat → Bool) (N : Nat) : fsK P N N = none := fstB_none (fun l hl => by simp [show ¬ N ≤ l by omega])
theorem oN_none {o : Option Nat} (h : ∀ q, o = some q → q < 2 ^ 31) (e : oN o = -1000000) : o = none := by
  cases o with
  | none => rfl
  | some q =>
    exfalso
    have h1 := h q rfl
    rw [oN, i32_eq, nI_toInt h1, k32_m1000000] at e
    omega
theorem oN_some {o : Option Nat} (e : ¬ oN o = -1000000) : ∃ q, o = some q := by
  cases o with
  | none => exact absurd rfl e
  | some q => exact ⟨q, rfl⟩
theorem nI_and (a b : Nat) : nI a &&& nI b = nI (a &&& b) := by
  apply Int32.toBitVec_inj.mp
  apply BitVec.eq_of_toNat_eq
  show ((BitVec.ofNat 32 a) &&& (BitVec.ofNat 32 b)).toNat = (BitVec.ofNat 32 (a &&& b)).toNat
  simp [Nat.and_mod_two_pow]
theorem nI_or (a b : Nat) : nI a ||| nI b = nI (a ||| b) := by
  apply Int32.toBitVec_inj.mp
  apply BitVec.eq_of_toNat_eq
  show ((BitVec.ofNat 32 a) ||| (BitVec.ofNat 32 b)).toNat = (BitVec.ofNat 32 (a ||| b)).toNat
  simp [Nat.or_mod_two_pow]
theorem nI_xor (a b : Nat) : nI a ^^^ nI b = nI (a ^^^ b) := by
  apply Int32.toBitVec_inj.mp
  apply BitVec.eq_of_toNat_eq
  show ((BitVec.ofNat 32 a) ^^^ (BitVec.ofNat 32 b)).toNat = (BitVec.ofNat 32 (a ^^^ b)).toNat
  simp [Nat.xor_mod_two_pow]
/-- the bits of b that s has not, b below 64 -/
theorem an_n : ∀ b, b < 64 → ∀ s, s < 64 → nI b &&& (nI s ^^^ (-1)) = nI (b &&& (63 ^^^ s)) := by decide +kernel
theorem rb_n (d : Nat) (_ : d < 64) (b : Nat) (hb : b < 64) (s : Nat) (hs : s < 64) : nI d &&& nI s ||| nI b &&& (nI s ^^^ (-1)) = nI (d &&& s ||| (b &&& (63 ^^^ s))) := by
  rw [an_n b hb s hs, nI_and, nI_or]
theorem rb_lt (d : Nat) (hd : d < 64) (b : Nat) (hb : b < 64) (s : Nat) : (d &&& s ||| (b &&& (63 ^^^ s))) < 64 :=
  Nat.or_lt_two_pow (n := 6) (Nat.lt_of_le_of_lt Nat.and_le_left hd) (Nat.lt_of_le_of_lt Nat.and_le_left hb)
theorem cp_0 {f g : Nat → Int32} {sp dp : Nat} : va_cpy f g sp dp 0 = g := by
  funext q
  unfold va_cpy
  rw [if_neg (by omega)]
theorem cp_s {f g : Nat → Int32} {sp dp n : Nat} : upd (va_cpy f g sp dp n) (dp + n) (f (sp + n)) = va_cpy f g sp dp (n + 1) := by
  funext q
  unfold upd
  by_cases h : q = dp + n
  · subst h
    rw [if_pos rfl, pk_cpy_in (by omega) (by omega), show sp + (dp + n - dp) = sp + n by omega]
  · rw [if_neg h]
    by_cases h2 : dp ≤ q ∧ q < dp + n
    · rw [pk_cpy_in h2.1 h2.2, pk_cpy_in h2.1 (by omega)]
    · rw [pk_cpy_out (by omega), pk_cpy_out (by omega)]
/-- the kept ones, one more of them -/
def keepN (a : Nat) : Nat := if a = 24 then 24 else a + 1
def keepW (t w : Nat → Int32) (a : Nat) : Nat → Int32 := if a = 24 then va_cpy t (va_cpy w w 21 0 483) 0 483 21 else va_cpy t w 0 (21 * a) 21
def dayT (t : Nat → Int32) (d : Int32) : Nat → Int32 := upd (upd t 2 d) 1 (t 1 + 1)
theorem i32_m21 {x : Int32} (h0 : 0 ≤ x.toInt) (h : x.toInt < 1000) : (21 * x).toInt = 21 * x.toInt := by
  have e := i32_mul (x := 21) (y := x) (by rw [k32_21]; omega) (by rw [k32_21]; omega)
  rw [e, k32_21]
theorem xI_21 {x y : Int32} {i j N : Nat} (hx : x.toInt = (i : Int)) (hi : i < 100) (hy : y.toInt = (j : Int)) (hj : j < 100) (h : 21 * i + j < N) : xI (21 * x + y) (21 * i + j) N := by
  have h1 := i32_m21 (x := x) (by omega) (by omega)
  refine xI_i ?_ h
  rw [i32_add (by omega) (by omega)]
  omega
theorem prB_le2 {f : Nat → Nat} {c : Nat} : ∀ {n : Nat}, (∀ p, p < n → f p ≤ c) → prB f n ≤ c ^ n
  | 0, _ => Nat.le_refl 1
  | n + 1, h => by
    rw [prB, Nat.pow_succ]
    exact Nat.mul_le_mul (prB_le2 (n := n) (fun p hp => h p (by omega))) (h n (by omega))
theorem ten6 {n : Nat} (h : n ≤ 6) : 10 ^ n ≤ 1000000 := Nat.pow_le_pow_right (n := 10) (by omega) h
theorem ods_lt {t : Nat → Int32} {np day b : Nat} {kd wh mn : Nat → Nat} (T : tOK t np kd wh mn day b) (l s : Nat) : ods kd wh mn np b l s ≤ 1000000 := by
  refine Nat.le_trans (prB_le2 (c := 10) (fun p hp => ?_)) (ten6 T.1)
  have h := T.2.2.2.2.2.2 p hp
  unfold odP
  split <;> split <;> omega
theorem odi_lt {t : Nat → Int32} {np day b : Nat} {kd wh mn : Nat → Nat} (T : tOK t np kd wh mn day b) : odi kd np ≤ 1000000 := by
  refine Nat.le_trans (prB_le2 (c := 10) (fun p hp => ?_)) (ten6 T.1)
  unfold odA
  split <;> omega
def allB (P : Nat → Bool) : Nat → Bool
  | 0 => true
  | n + 1 => allB P n && P n
theorem allB_at {P : Nat → Bool} : ∀ {n : Nat}, allB P n = true → ∀ k, k < n → P k = true
  | n + 1, h, k, hk => by
    rw [allB, Bool.and_eq_true] at h
    by_cases e : k = n
    · subst e; exact h.2
    · exact allB_at (n := n) h.1 k (by omega)
theorem allB_congr {P Q : Nat → Bool} : ∀ {n : Nat}, (∀ l, l < n → P l = Q l) → allB P n = allB Q n
  | 0, _ => rfl
  | n + 1, h => by rw [allB, allB, allB_congr (n := n) (fun l hl => h l (by omega)), h n (by omega)]
/-- the items from F on that are letters -/
def setP (item : Nat → Int32) (F np : Nat) : Nat → Bool := fun k => decide (0 ≤ (item (F + k)).toInt ∧ (item (F + k)).toInt < (2 ^ np : Nat))
def letN (item : Nat → Int32) (F : Nat) : Nat → Nat := fun k => (item (F + k)).toNatClampNeg
/-- who did it ahead of the k-th of the letters -/
def befN (item : Nat → Int32) (F b : Nat) : Nat → Nat
  | 0 => b
  | k + 1 => letN item F k
def brkP (kd wh mn : Nat → Nat) (np b : Nat) (item : Nat → Int32) (F : Nat) : Nat → Bool := fun k => !agr kd wh mn np (befN item F b k) (letN item F k)
abbrev dST : Type := (Nat → Int32) × (Nat → Int32) × Nat
/-- a day goes by: the town, the kept ones, how many -/
def gdS (x : dST) (d : Int32) : dST := (dayT x.1 d, keepW x.1 x.2.1 x.2.2, keepN x.2.2)
def psS (x : dST) (item : Nat → Int32) (F : Nat) : Nat → dST
  | 0 => x
  | k + 1 => gdS (psS x item F k) (item (F + k))
theorem keepN_le {a : Nat} (h : a ≤ 24) : keepN a ≤ 24 := by unfold keepN; split <;> omega
/-- a day goes by, the people stay -/
theorem tOK_day {t : Nat → Int32} {np day b : Nat} {kd wh mn : Nat → Nat} (T : tOK t np kd wh mn day b) {d : Nat} (hd : d < 2 ^ np) (hday : day < 9999) : tOK (dayT t (nI d)) np kd wh mn (day + 1) d := by
  obtain ⟨h1, h2, h3, h4, h5, h6, h7⟩ := T
  refine ⟨h1, ?_, ?_, by omega, ?_, hd, fun p hp => ?_⟩
  · simp [dayT, upd, h2]
  · simp [dayT, upd, h3, nI_1]
  · simp [dayT, upd]
  · have := h7 p hp
    simp only [dayT, upd]
    rw [if_neg (by omega), if_neg (by omega), if_neg (by omega), if_neg (by omega), if_neg (by omega), if_neg (by omega)]
    exact this
def lotX (kd : Nat → Nat) (seed : Nat) : Nat → Nat
  | 0 => seed
  | p + 1 => if kd p = 3 then lotX kd seed p * 16807 % 2147483647 else lotX kd seed p
def lotD (kd mn : Nat → Nat) (seed d : Nat) : Nat → Nat
  | 0 => d
  | p + 1 => if kd p = 3 ∧ lotX kd seed (p + 1) % 10 < mn p then lotD kd mn seed d p ^^^ 2 ^ p else lotD kd mn seed d p
theorem lotX_lt {kd : Nat → Nat} {seed : Nat} (h : seed < 2147483647) : ∀ p : Nat, lotX kd seed p < 2147483647
  | 0 => h
  | p + 1 => by
    rw [lotX]
    split
    · exact Nat.mod_lt _ (by omega)
    · exact lotX_lt h p
theorem lotD_lt {kd mn : Nat → Nat} {seed d n : Nat} (hd : d < 2 ^ n) : ∀ {p : Nat}, p ≤ n → lotD kd mn seed d p < 2 ^ n
  | 0, _ => hd
  | p + 1, h => by
    rw [lotD]
    split
    · exact Nat.xor_lt_two_pow (lotD_lt hd (by omega)) (Nat.pow_lt_pow_right (by omega) (by omega))
    · exact lotD_lt hd (by omega)
def okPost (kd wh mn : Nat → Nat) (np day b : Nat) (s : Int32) : Prop := 0 < np ∧ 0 ≤ s.toInt ∧ s.toInt < (2 ^ np : Nat) ∧ dn kd wh mn np s.toNatClampNeg b = s.toNatClampNeg ∧ day < 9999
def a_post (kd wh mn : Nat → Nat) (np day b : Nat) (s : Int32) : Int32 := if 0 < np then (if 0 ≤ s.toInt ∧ s.toInt < (2 ^ np : Nat) then (if dn kd wh mn np s.toNatClampNeg b = s.toNatClampNeg then (if day = 9999 then -1000003 else nI (day + 1)) else -1000002) else -1000001) else -1000002
def okLots (np day : Nat) (s e : Int32) : Prop := 0 < np ∧ 0 ≤ s.toInt ∧ s.toInt < (2 ^ np : Nat) ∧ 1 ≤ e.toInt ∧ e.toInt ≤ 999999 ∧ day < 9999
def lotO (kd wh mn : Nat → Nat) (np b : Nat) (s e : Int32) : Nat := lotD kd mn e.toNatClampNeg (dn kd wh mn np s.toNatClampNeg b) np
def a_lots (kd wh mn : Nat → Nat) (np day b : Nat) (s e : Int32) : Int32 := if 0 < np then (if 0 ≤ s.toInt ∧ s.toInt < (2 ^ np : Nat) ∧ 1 ≤ e.toInt ∧ e.toInt ≤ 999999 then (if day = 9999 then -1000003 else nI (lotO kd wh mn np b s e)) else -1000001) else -1000002
theorem befN_lt {kd wh mn : Nat → Nat} {item : Nat → Int32} {F np b N : Nat} (hb : b < 2 ^ np) (h : allB (setP item F np) N = true) {k : Nat} (hk : k ≤ N) : befN item F b k < 2 ^ np := by
  cases k with
  | zero => exact hb
  | succ k =>
    have h1 := of_decide_eq_true (allB_at h k (by omega))
    have h2 := i32_tn h1.1
    show (item (F + k)).toNatClampNeg < 2 ^ np
    omega
theorem letN_ok {item : Nat → Int32} {F np N : Nat} (h : allB (setP item F np) N = true) {k : Nat} (hk : k < N) : item (F + k) = nI (letN item F k) ∧ letN item F k < 2 ^ np := by
  have h1 := of_decide_eq_true (allB_at h k hk)
  have h2 := i32_tn h1.1
  refine ⟨h2.1, ?_⟩
  show (item (F + k)).toNatClampNeg < 2 ^ np
  omega
theorem psS_T {kd wh mn : Nat → Nat} {x : dST} {item : Nat → Int32} {F np day b N : Nat} (T : tOK x.1 np kd wh mn day b) (h : allB (setP item F np) N = true) (hd : day + N ≤ 9999) : ∀ {k : Nat}, k ≤ N → tOK (psS x item F k).1 np kd wh mn (day + k) (befN item F b k)
  | 0, _ => T
  | k + 1, hk => by
    have ih := psS_T T h hd (k := k) (by omega)
    have hl := letN_ok h (k := k) (by omega)
    have e := tOK_day ih hl.2 (by omega)
    rw [← hl.1] at e
    exact e
theorem psS_le {x : dST} {item : Nat → Int32} {F : Nat} (h : x.2.2 ≤ 24) : ∀ k : Nat, (psS x item F k).2.2 ≤ 24
  | 0 => h
  | k + 1 => keepN_le (psS_le h k)
/-- how many letters are posted -/
def kst (kd wh mn : Nat → Nat) (np b : Nat) (item : Nat → Int32) (F N : Nat) : Nat := (fstB (brkP kd wh mn np b item F) N).getD N
theorem kst_all {kd wh mn : Nat → Nat} {np b : Nat} {item : Nat → Int32} {F N : Nat} (h : ∀ k, k < N → brkP kd wh mn np b item F k = false) : kst kd wh mn np b item F N = N := by rw [kst, fstB_none h]; rfl
theorem kst_at {kd wh mn : Nat → Nat} {np b : Nat} {item : Nat → Int32} {F N k : Nat} (h1 : brkP kd wh mn np b item F k = true) (h : ∀ q, q < k → brkP kd wh mn np b item F q = false) (hk : k < N) : kst kd wh mn np b item F N = k := by rw [kst, fstB_some h1 h hk]; rfl
def lackF (lane many : Nat → Int32) (r i n : Int32) : Int32 := if (lane r.toNatClampNeg).toInt < 0 then 1 else if i.toInt < 0 ∨ (many r.toNatClampNeg).toInt < i.toInt + n.toInt then 2 else 0
theorem lack0 {lane many : Nat → Int32} {r i n : Int32} (h : (lackF lane many r i n).toInt ≤ 0) : 0 ≤ (lane r.toNatClampNeg).toInt ∧ 0 ≤ i.toInt ∧ i.toInt + n.toInt ≤ (many r.toNatClampNeg).toInt := by
  unfold lackF at h
  split at h
  · rw [k32_1] at h; omega
  · split at h
    · rw [k32_2] at h; omega
    · omega
abbrev rOK (r : Int32) : Prop := 0 ≤ r.toInt ∧ r.toInt < 8
abbrev fX (r i : Int32) : Nat := 40 * r.toNatClampNeg + i.toNatClampNeg
def a_breaks (kd wh mn : Nat → Nat) (np b : Nat) (lane many item : Nat → Int32) (r i n : Int32) : Int32 := if 0 < np then (if (0 ≤ r.toInt ∧ r.toInt < 8) ∧ 0 ≤ n.toInt ∧ n.toInt ≤ 40 then (if (lackF lane many r i n).toInt ≤ 0 then (if allB (setP item (40 * r.toNatClampNeg + i.toNatClampNeg) np) n.toNatClampNeg = true then oN (fstB (brkP kd wh mn np b item (40 * r.toNatClampNeg + i.toNatClampNeg)) n.toNatClampNeg) else -1000001) else (-1000010) - lackF lane many r i n) else -1000001) else -1000002
def a_posts (kd wh mn : Nat → Nat) (np day b : Nat) (lane many item : Nat → Int32) (r i n : Int32) : Int32 := if 0 < np then (if (0 ≤ r.toInt ∧ r.toInt < 8) ∧ 1 ≤ n.toInt ∧ n.toInt ≤ 24 then (if (lackF lane many r i n).toInt ≤ 0 then (if allB (setP item (40 * r.toNatClampNeg + i.toNatClampNeg) np) n.toNatClampNeg = true then (if 9999 < day + n.toNatClampNeg then -1000003 else nI (kst kd wh mn np b item (40 * r.toNatClampNeg + i.toNatClampNeg) n.toNatClampNeg)) else -1000001) else (-1000010) - lackF lane many r i n) else -1000001) else -1000002
abbrev trS : Type := (Nat → Int32) × Nat
/-- a body leaves its number -/
def bg (x : trS) (v : Int32) : trS := if x.2 < 16 then (upd x.1 x.2 v, x.2 + 1) else x
def bgs (x : trS) (l : List Int32) : trS := l.foldl bg x
theorem bg_le {x : trS} {v : Int32} (h : x.2 ≤ 16) : (bg x v).2 ≤ 16 := by
  unfold bg
  split
  · show x.2 + 1 ≤ 16; omega
  · exact h
def mkT (k : Nat) : List Int32 := if k = 1 then [21, 20] else if k = 2 then [24, 21, 20] else if k = 3 then [22, 21, 20] else if k = 4 then [23, 20, 13, 10] else [23, 20, 14, 13, 10]
def szT (k : Nat) : List Int32 := if k = 1 then [11, 10, 21, 20] else if k = 2 then [12, 11, 10, 24, 21, 20] else if k = 3 then [11, 10, 22, 21, 20] else if k = 4 then [13, 10] else [14, 13, 10]
def mkV (k : Nat) (p w m : Int32) : Int32 := if k = 1 then p + w else if k = 2 then 2 * (p + w) else if k = 3 then (p + w) - 1000 else if k = 4 then p - (m - 100) else p - 2 * (m - 100)
def szV (k : Nat) (p w m : Int32) : Int32 := if k = 1 then m + (p + w) else if k = 2 then -(m + 2 * (p + w)) else if k = 3 then m + ((p + w) - 1000) else if k = 4 then m - 100 else 2 * (m - 100)
def askOK (np : Nat) (p w : Int32) : Prop := (0 ≤ p.toInt ∧ p.toInt < np) ∧ 0 ≤ w.toInt ∧ w.toInt ≤ 1
def askV (kd wh mn : Nat → Nat) (p w : Int32) : Int32 := if w.toInt = 0 then szV (kd p.toNatClampNeg) (nI p.toNatClampNeg) (nI (wh p.toNatClampNeg)) (nI (mn p.toNatClampNeg)) else mkV (kd p.toNatClampNeg) (nI p.toNatClampNeg) (nI (wh p.toNatClampNeg)) (nI (mn p.toNatClampNeg))
def askT (kd : Nat → Nat) (x : trS) (p w : Int32) : trS := bgs (x.1, 0) (if w.toInt = 0 then szT (kd p.toNatClampNeg) else mkT (kd p.toNatClampNeg))
def isOfP (a b : Int) : Prop := b = 0 ∨ a = b ∨ (b = 1 ∧ a < 4) ∨ (b = 4 ∧ a = 5)
/-- the lowest bits, by the lane -/
def nw (l v : Int32) : Int32 := if l.toInt = 0 then v.toInt8.toInt32 else if l.toInt = 1 then v.toInt16.toInt32 else v
def setOK (many : Nat → Int32) (r i : Int32) : Prop := 0 ≤ i.toInt ∧ i.toInt < (many r.toNatClampNeg).toInt
def a_set (lane many : Nat → Int32) (r i v : Int32) : Int32 := if 0 ≤ r.toInt ∧ r.toInt < 8 then (if (lane r.toNatClampNeg).toInt < 0 then -1000011 else if 0 ≤ i.toInt ∧ i.toInt < (many r.toNatClampNeg).toInt then nw (lane r.toNatClampNeg) v else -1000012) else -1000001
def a_drop (lane many : Nat → Int32) (r : Int32) : Int32 := if 0 ≤ r.toInt ∧ r.toInt < 8 then (if (lane r.toNatClampNeg).toInt < 0 then -1000011 else many r.toNatClampNeg) else -1000001
abbrev cpyN (many : Nat → Int32) (a i b j n : Int32) : Prop := 0 ≤ i.toInt ∧ 0 ≤ j.toInt ∧ 0 ≤ n.toInt ∧ i.toInt + n.toInt ≤ (many a.toNatClampNeg).toInt ∧ j.toInt + n.toInt ≤ (many b.toNatClampNeg).toInt
def a_copy (lane many : Nat → Int32) (a i b j n : Int32) : Int32 := if (0 ≤ a.toInt ∧ a.toInt < 8) ∧ 0 ≤ b.toInt ∧ b.toInt < 8 then (if (lane a.toNatClampNeg).toInt < 0 ∨ (lane b.toNatClampNeg).toInt < 0 then -1000011 else if (lane a.toNatClampNeg).toInt = (lane b.toNatClampNeg).toInt then (if 0 ≤ i.toInt ∧ 0 ≤ j.toInt ∧ 0 ≤ n.toInt ∧ i.toInt + n.toInt ≤ (many a.toNatClampNeg).toInt ∧ j.toInt + n.toInt ≤ (many b.toNatClampNeg).toInt then n else -1000012) else -1000015) else -1000001
def rowsN (lane : Nat → Int32) : Nat → Nat
  | 0 => 0
  | k + 1 => rowsN lane k + (if 0 ≤ (lane k).toInt then 1 else 0)
theorem rowsN_le (lane : Nat → Int32) : ∀ k : Nat, rowsN lane k ≤ k
  | 0 => Nat.le_refl 0
  | k + 1 => by
    have := rowsN_le lane k
    rw [rowsN]
    split <;> omega
theorem cp_d {f g : Nat → Int32} {sp dp n : Nat} (h1 : 1 ≤ sp) (h2 : 1 ≤ dp) : upd (va_cpy f g sp dp n) (dp - 1) (f (sp - 1)) = va_cpy f g (sp - 1) (dp - 1) (n + 1) := by
  funext q
  unfold upd
  by_cases h : q = dp - 1
  · subst h
    rw [if_pos rfl, pk_cpy_in (by omega) (by omega), show sp - 1 + (dp - 1 - (dp - 1)) = sp - 1 by omega]
  · rw [if_neg h]
    by_cases h3 : dp ≤ q ∧ q < dp + n
    · rw [pk_cpy_in h3.1 h3.2, pk_cpy_in (by omega) (by omega), show sp - 1 + (q - (dp - 1)) = sp + (q - dp) by omega]
    · rw [pk_cpy_out (by omega), pk_cpy_out (by omega)]
/-- byte e of w, the lowest 0 -/
def fb (w : Int64) (e : Nat) : Nat := w.toBitVec.toNat / 2 ^ (8 * e) % 2 ^ 8
theorem fb_lt (w : Int64) (e : Nat) : fb w e < 256 := Nat.mod_lt _ (by decide)
theorem fb_bit (w : Int64) (e i : Nat) : (fb w e).testBit i = (decide (i < 8) && w.toBitVec.getLsbD (8 * e + i)) := by
  rw [fb, Nat.testBit_mod_two_pow, Nat.testBit_div_two_pow]
  rw [BitVec.getLsbD, show i + 8 * e = 8 * e + i by omega]
theorem k255 (i : Nat) : (255#64).getLsbD i = decide (i < 8) := by
  rw [show (255#64) = BitVec.ofNat 64 (2 ^ 8 - 1) from rfl, BitVec.getLsbD_ofNat, Nat.testBit_two_pow_sub_one]
  by_cases h : i < 8
  · simp [h, show i < 64 by omega]
  · simp [h]
theorem sh8 : ∀ e, e < 8 → (((8 : Int32) * nI e).toInt64 &&& 63).toBitVec.smod 64 = BitVec.ofNat 64 (8 * e) := by decide +kernel
theorem ush8 : ∀ e, e < 8 → ((((8 : Int32) * nI e).toInt64.toUInt64 &&& Int64.toUInt64 63).toBitVec % 64) = BitVec.ofNat 64 (8 * e) := by decide +kernel
theorem fbv (w : Int64) (e : Nat) (he : e < 8) : ((w >>> (((8 : Int32) * nI e).toInt64 &&& 63)) &&& 255).toInt32 = nI (fb w e) := by
  apply Int32.toBitVec_inj.mp
  show (((w.toBitVec.sshiftRight' ((((8 : Int32) * nI e).toInt64 &&& 63).toBitVec.smod 64)) &&& 255#64).signExtend 32) = BitVec.ofNat 32 (fb w e)
  rw [sh8 e he]
  apply BitVec.eq_of_getLsbD_eq
  intro i hi
  rw [BitVec.getLsbD_signExtend, BitVec.getLsbD_ofNat, fb_bit]
  simp only [hi, decide_true, Bool.true_and]
  rw [if_pos (show i < 64 by omega), BitVec.getLsbD_and, k255, BitVec.sshiftRight', BitVec.getLsbD_sshiftRight]
  have e1 : (BitVec.ofNat 64 (8 * e)).toNat = 8 * e := by simp; omega
  rw [e1]
  by_cases h8 : i < 8
  · simp [h8, show ¬ 64 ≤ i by omega, show 8 * e + i < 64 by omega]
  · simp [h8]
def suB (f : Nat → Nat) : Nat → Nat
  | 0 => 0
  | n + 1 => suB f n + f n
theorem suB_le {f : Nat → Nat} {c : Nat} : ∀ {n : Nat}, (∀ l, l < n → f l ≤ c) → suB f n ≤ n * c
  | 0, _ => by simp [suB]
  | n + 1, h => by
    have h1 := suB_le (f := f) (c := c) (n := n) (fun l hl => h l (by omega))
    have h2 := h n (by omega)
    rw [suB, Nat.succ_mul]
    omega
theorem suB_pos {f : Nat → Nat} : ∀ {n : Nat}, 0 < suB f n → ∃ l, l < n ∧ 0 < f l
  | n + 1, h => by
    rw [suB] at h
    by_cases e : 0 < f n
    · exact ⟨n, by omega, e⟩
    · obtain ⟨l, h1, h2⟩ := suB_pos (f := f) (n := n) (by omega)
      exact ⟨l, by omega, h2⟩
theorem suB_congr {f g : Nat → Nat} : ∀ {n : Nat}, (∀ l, l < n → f l = g l) → suB f n = suB g n
  | 0, _ => rfl
  | n + 1, h => by rw [suB, suB, suB_congr (n := n) (fun l hl => h l (by omega)), h n (by omega)]
/-- how many chains of d days, those of b the day before -/
def chN (kd wh mn : Nat → Nat) (np : Nat) : Nat → Nat → Nat
  | 0, _ => 1
  | d + 1, b => suB (fun l => if agr kd wh mn np b l = true then chN kd wh mn np d l else 0) (2 ^ np)
theorem chN_le {kd wh mn : Nat → Nat} {np : Nat} (h : np ≤ 6) : ∀ d b : Nat, chN kd wh mn np d b ≤ 64 ^ d
  | 0, b => Nat.le_refl 1
  | d + 1, b => by
    have h1 : chN kd wh mn np (d + 1) b ≤ 2 ^ np * 64 ^ d := suB_le (fun l _ => by
      split
      · exact chN_le h d l
      · exact Nat.zero_le _)
    have h2 : 2 ^ np * 64 ^ d ≤ 64 * 64 ^ d := Nat.mul_le_mul_right _ (pw_le h)
    rw [Nat.pow_succ, Nat.mul_comm]
    exact Nat.le_trans h1 h2
theorem chN_lt {kd wh mn : Nat → Nat} {np : Nat} (h : np ≤ 6) {d : Nat} (hd : d ≤ 5) (b : Nat) : chN kd wh mn np d b < 2 ^ 31 := by
  have h1 := chN_le (kd := kd) (wh := wh) (mn := mn) h d b
  have h2 : 64 ^ d ≤ 64 ^ 5 := Nat.pow_le_pow_right (by omega) hd
  have h3 : 64 ^ 5 < 2 ^ 31 := by decide
  omega
/-- the counts laid out -/
def laC (kd wh mn : Nat → Nat) (np : Nat) (c : Nat → Int32) : Nat → Nat → Int32
  | 0 => c
  | d + 1 => va_cpy (fun q => nI (chN kd wh mn np d q)) (laC kd wh mn np c d) 0 (64 * d) (2 ^ np)
theorem laC_at {kd wh mn : Nat → Nat} {np : Nat} {c : Nat → Int32} (h : np ≤ 6) : ∀ {d e q : Nat}, e < d → q < 2 ^ np → laC kd wh mn np c d (64 * e + q) = nI (chN kd wh mn np e q)
  | d + 1, e, q, he, hq => by
    have h64 := pw_le h
    rw [laC]
    by_cases x : e = d
    · subst x
      rw [pk_cpy_in (by omega) (by omega), show 0 + (64 * e + q - 64 * e) = q by omega]
    · rw [pk_cpy_out (by omega)]
      exact laC_at h (by omega) hq
/-- the letters of the first chain of n days -/
def fcQ (kd wh mn : Nat → Nat) (np b n d : Nat) : Nat → Bool := fun l => agr kd wh mn np b l && decide (0 < chN kd wh mn np (n - d - 1) l)
def fcl (kd wh mn : Nat → Nat) (np b n : Nat) : Nat → Nat
  | 0 => b
  | d + 1 => (fstB (fcQ kd wh mn np (fcl kd wh mn np b n d) n d) (2 ^ np)).getD 0
theorem fst_ex {Q : Nat → Bool} : ∀ {n : Nat}, (∃ l, l < n ∧ Q l = true) → ∃ k, fstB Q n = some k ∧ k < n ∧ Q k = true ∧ ∀ q, q < k → Q q = false := by
  intro n h
  obtain ⟨k, hk, hm⟩ := pk_least (fun l => l < n ∧ Q l = true) h
  refine ⟨k, fstB_some hk.2 ?_ hk.1, hk.1, hk.2, ?_⟩
  · intro q hq
    have := hm q hq
    cases e : Q q
    · rfl
    · exact absurd ⟨by omega, e⟩ this
  · intro q hq
    have := hm q hq
    cases e : Q q
    · rfl
    · exact absurd ⟨by omega, e⟩ this
/-- while there is a chain, there is a next letter -/
theorem fcl_step {kd wh mn : Nat → Nat} {np b n d : Nat} (hd : d < n) (h : 0 < chN kd wh mn np (n - d) (fcl kd wh mn np b n d)) : ∃ k, fcl kd wh mn np b n (d + 1) = k ∧ k < 2 ^ np ∧ fcQ kd wh mn np (fcl kd wh mn np b n d) n d k = true ∧ (∀ q, q < k → fcQ kd wh mn np (fcl kd wh mn np b n d) n d q = false) ∧ 0 < chN kd wh mn np (n - (d + 1)) k := by
  rw [show n - d = (n - d - 1) + 1 by omega, chN] at h
  obtain ⟨l, hl, hp⟩ := suB_pos h
  have ha : agr kd wh mn np (fcl kd wh mn np b n d) l = true := by
    cases e : agr kd wh mn np (fcl kd wh mn np b n d) l
    · rw [e] at hp; simp at hp
    · rfl
  rw [if_pos ha] at hp
  obtain ⟨k, h1, h2, h3, h4⟩ := fst_ex (Q := fcQ kd wh mn np (fcl kd wh mn np b n d) n d) ⟨l, hl, by rw [fcQ, ha, decide_eq_true hp]; rfl⟩
  refine ⟨k, by rw [fcl, h1]; rfl, h2, h3, h4, ?_⟩
  rw [fcQ, Bool.and_eq_true] at h3
  have h5 := of_decide_eq_true h3.2
  rw [show n - (d + 1) = n - d - 1 by omega]
  exact h5
def a_chains (kd wh mn : Nat → Nat) (np b : Nat) (n k : Int32) : Int32 := if 0 < np then (if (1 ≤ n.toInt ∧ n.toInt ≤ 5) ∧ -1 ≤ k.toInt then (if k.toInt < 0 then nI (chN kd wh mn np n.toNatClampNeg b) else if n.toInt ≤ k.toInt ∨ chN kd wh mn np n.toNatClampNeg b = 0 then -1000000 else nI (fcl kd wh mn np b n.toNatClampNeg (k.toNatClampNeg + 1))) else -1000001) else -1000002
theorem i32_m64 {x : Int32} (h0 : 0 ≤ x.toInt) (h : x.toInt < 1000) : (64 * x).toInt = 64 * x.toInt := by
  have e := i32_mul (x := 64) (y := x) (by rw [k32_64]; omega) (by rw [k32_64]; omega)
  rw [e, k32_64]
theorem xI_64 {x y : Int32} {i j : Nat} (hx : x.toInt = (i : Int)) (hi : i < 6) (hy : y.toInt = (j : Int)) (hj : j < 64) : xI (64 * x + y) (64 * i + j) 384 := by
  have h1 := i32_m64 (x := x) (by omega) (by omega)
  refine xI_i ?_ (by omega)
  rw [i32_add (by omega) (by omega)]
  omega

/-! THE INVARIANT between class and model: e the class, w = e + 16 its town, m = e + 37 the model -/
theorem PW.fr {B : Nat} {h h' : xH} {pf : Nat → Option Nat} {np : Nat} {kd wh mn : Nat → Nat} (g : PW B h pf np kd wh mn) (f : ∀ a y, B ≤ a → h a = some y → h' a = some y) : PW B h' pf np kd wh mn := fun p hp => by
  obtain ⟨⟨ap, h1, h2, h3⟩, h4⟩ := g p hp
  exact ⟨⟨ap, h1, h2, f _ _ h2 h3⟩, h4⟩
theorem PE.fr {B : Nat} {h h' : xH} {pf : Nat → Option Nat} (g : PE B h pf) (f : ∀ a y, B ≤ a → h a = some y → h' a = some y) : PE B h' pf := fun i y hi hy => by
  obtain ⟨h1, ci, fs, r, h2, h3⟩ := g i y hi hy
  exact ⟨h1, ci, fs, r, f _ _ h1 h2, h3⟩
/-- rows: their numbers -/
def rR (lane many item lanes sizes : Nat → Int32) (it : Nat → Nat → Int32) : Prop := (∀ q, q < 8 → sizes q = if (lane q).toInt < 0 then -1 else many q) ∧ (∀ q, q < 8 → 0 ≤ (many q).toInt ∧ (many q).toInt ≤ 40) ∧ (∀ q, q < 8 → 0 ≤ (lane q).toInt → lanes q = lane q) ∧ (∀ q j, q < 8 → j < 40 → it q j = item (40 * q + j))
def updr (it : Nat → Nat → Int32) (R : Nat) (f : Nat → Int32) : Nat → Nat → Int32 := fun q => if q = R then f else it q
theorem rR_row {lane many item lanes sizes : Nat → Int32} {it : Nat → Nat → Int32} {R : Nat} {l2 n : Int32} (g : rR lane many item lanes sizes it) (hl : 0 ≤ l2.toInt) (hn : 0 ≤ n.toInt) (hn2 : n.toInt ≤ 40) : rR (upd lane R l2) (upd many R n) (zf item (40 * R) 40) (upd lanes R l2) (upd sizes R n) (updr it R (ffl (it R) 0 40)) := by
  obtain ⟨g1, g2, g3, g4⟩ := g
  refine ⟨fun q hq => ?_, fun q hq => ?_, fun q hq => ?_, fun q j hq hj => ?_⟩
  · unfold upd
    by_cases c : q = R
    · rw [if_pos c, if_pos c, if_pos c, if_neg (by omega)]
    · rw [if_neg c, if_neg c, if_neg c]; exact g1 q hq
  · unfold upd
    by_cases c : q = R
    · rw [if_pos c]; exact ⟨hn, hn2⟩
    · rw [if_neg c]; exact g2 q hq
  · unfold upd
    by_cases c : q = R
    · rw [if_pos c, if_pos c]; exact fun _ => rfl
    · rw [if_neg c, if_neg c]; exact g3 q hq
  · unfold updr zf
    by_cases c : q = R
    · subst c
      rw [if_pos rfl, if_pos (by omega)]
      exact if_pos hj
    · rw [if_neg c, if_neg (by omega)]; exact g4 q j hq hj
theorem rR_set {lane many item lanes sizes : Nat → Int32} {it : Nat → Nat → Int32} {R I : Nat} {v : Int32} (g : rR lane many item lanes sizes it) (hI : I < 40) : rR lane many (upd item (40 * R + I) v) lanes sizes (updr it R (upd (it R) I v)) := by
  obtain ⟨g1, g2, g3, g4⟩ := g
  refine ⟨g1, g2, g3, fun q j hq hj => ?_⟩
  unfold updr upd
  by_cases c : q = R
  · subst c
    rw [if_pos rfl]
    by_cases c2 : j = I
    · subst c2; simp
    · rw [if_neg (by omega)]; simp [c2]; exact g4 q j hq hj
  · rw [if_neg c, if_neg (by omega)]; exact g4 q j hq hj
theorem rR_copy {lane many item lanes sizes : Nat → Int32} {it : Nat → Nat → Int32} {A B I J N : Nat} (g : rR lane many item lanes sizes it) (hA : A < 8) (hI : I + N ≤ 40) (hJ : J + N ≤ 40) : rR lane many (va_cpy item item (40 * A + I) (40 * B + J) N) lanes sizes (updr it B (va_cpy (it A) (it B) I J N)) := by
  obtain ⟨g1, g2, g3, g4⟩ := g
  refine ⟨g1, g2, g3, fun q j hq hj => ?_⟩
  unfold updr
  by_cases c : q = B
  · subst c
    rw [if_pos rfl]
    by_cases c2 : J ≤ j ∧ j < J + N
    · rw [pk_cpy_in c2.1 c2.2, pk_cpy_in (by omega) (by omega), g4 A _ hA (by omega)]
      congr 1
      omega
    · rw [pk_cpy_out (by omega), pk_cpy_out (by omega)]; exact g4 q j hq hj
  · rw [if_neg c, pk_cpy_out (by omega)]; exact g4 q j hq hj
theorem rR_drop {lane many item lanes sizes : Nat → Int32} {it : Nat → Nat → Int32} {R : Nat} (g : rR lane many item lanes sizes it) : rR (upd lane R (-1)) many item lanes (upd sizes R (-1)) it := by
  obtain ⟨g1, g2, g3, g4⟩ := g
  refine ⟨fun q hq => ?_, g2, fun q hq => ?_, g4⟩
  · unfold upd
    by_cases c : q = R
    · rw [if_pos c, if_pos c, if_pos (by decide)]
    · rw [if_neg c, if_neg c]; exact g1 q hq
  · unfold upd
    by_cases c : q = R
    · rw [if_pos c]; intro h9; exact absurd h9 (by decide)
    · rw [if_neg c]; exact g3 q hq
theorem rowsC {e R : Nat} {h : xH} {it : Nat → Nat → Int32} {f : Nat → Int32} (g : ∀ q, q < 8 → h (e + 3 + q) = some (.inl (.int, 40, .inl (it q)))) : ∀ q, q < 8 → xu h (e + 3 + R) (.inl (.int, 40, .inl f)) (e + 3 + q) = some (.inl (.int, 40, .inl (updr it R f q))) := fun q hq => by
  unfold updr
  by_cases c : q = R
  · subst c; rw [if_pos rfl]; exact xu_s _ _ _
  · rw [if_neg c]; exact xu_at (by omega) (g q hq)
def iRows (e m : Nat) (h : xH) (lane many item : Nat → Int32) : Prop := ∃ (lanes sizes : Nat → Int32) (it : Nat → Nat → Int32), h (e + 1) = some (.inr (5, [.ref (e + 2), .ref (e + 11), .ref (e + 12)])) ∧ h (e + 2) = some (.inl (.array .int, 8, .inr (.inr (.inr (.inr (xmo (e + 2) 8)))))) ∧ (∀ q, q < 8 → h (e + 3 + q) = some (.inl (.int, 40, .inl (it q)))) ∧ h (e + 11) = some (.inl (.int, 8, .inl lanes)) ∧ h (e + 12) = some (.inl (.int, 8, .inl sizes)) ∧ h (m + 1) = some (.inl (.int, 8, .inl lane)) ∧ h (m + 2) = some (.inl (.int, 8, .inl many)) ∧ h (m + 3) = some (.inl (.int, 320, .inl item)) ∧ rR lane many item lanes sizes it
theorem iRows.fr {e m : Nat} {h h' : xH} {lane many item : Nat → Int32} (g : iRows e m h lane many item) (f : ∀ a y, ((e + 1 ≤ a ∧ a ≤ e + 12) ∨ (m + 1 ≤ a ∧ a ≤ m + 3)) → h a = some y → h' a = some y) : iRows e m h' lane many item := by
  obtain ⟨lanes, sizes, it, g1, g2, g3, g4, g5, g6, g7, g8, g9⟩ := g
  exact ⟨lanes, sizes, it, f _ _ (by omega) g1, f _ _ (by omega) g2, fun q hq => f _ _ (by omega) (g3 q hq), f _ _ (by omega) g4, f _ _ (by omega) g5, f _ _ (by omega) g6, f _ _ (by omega) g7, f _ _ (by omega) g8, g9⟩
theorem iRows.put {e m a : Nat} {h : xH} {c : xE} {lane many item : Nat → Int32} (g : iRows e m h lane many item) (ha : ¬ ((e + 1 ≤ a ∧ a ≤ e + 12) ∨ (m + 1 ≤ a ∧ a ≤ m + 3))) : iRows e m (xu h a c) lane many item := g.fr (fun a' y z q => xu_at (fun e9 => ha (e9 ▸ z)) q)
def iTape (e m : Nat) (h : xH) (tn : Nat) : Prop := ∃ (bt tape : Nat → Int32) (t : Nat → Nat), h (e + 14) = some (.inl (.byte, 300, .inl bt)) ∧ h (m + 7) = some (.inl (.int, 300, .inl tape)) ∧ (∀ q, q < tn → bt q = sb (t q)) ∧ (∀ q, q < tn → tape q = nI (t q)) ∧ (∀ q, q < tn → t q < 256) ∧ tn ≤ 300
theorem iTape.fr {e m tn : Nat} {h h' : xH} (g : iTape e m h tn) (f : ∀ a y, (a = e + 14 ∨ a = m + 7) → h a = some y → h' a = some y) : iTape e m h' tn := by
  obtain ⟨bt, tape, t, g1, g2, g3⟩ := g
  exact ⟨bt, tape, t, f _ _ (Or.inl rfl) g1, f _ _ (Or.inr rfl) g2, g3⟩
theorem iTape.put {e m tn a : Nat} {h : xH} {c : xE} (g : iTape e m h tn) (ha : ¬ (a = e + 14 ∨ a = m + 7)) : iTape e m (xu h a c) tn := g.fr (fun a' y z q => xu_at (fun e9 => ha (e9 ▸ z)) q)
def iTown (e w m : Nat) (h : xH) (np day b : Nat) (kd wh mn : Nat → Nat) : Prop := ∃ (pf : Nat → Option Nat) (fr t : Nat → Int32), h (w + 1) = some (.inl (.object "EvePost$Person", 6, .inr (.inr (.inr (.inr pf))))) ∧ h (w + 2) = some (.inl (.int, 64, .inl fr)) ∧ h (m + 4) = some (.inl (.int, 21, .inl t)) ∧ tOK t np kd wh mn day b ∧ PW (e + 49) h pf np kd wh mn ∧ PE (e + 49) h pf ∧ frOK fr kd wh mn np
theorem iTown.fr {e w m np day b : Nat} {h h' : xH} {kd wh mn : Nat → Nat} (g : iTown e w m h np day b kd wh mn) (f : ∀ a y, (a = w + 1 ∨ a = w + 2 ∨ a = m + 4 ∨ e + 49 ≤ a) → h a = some y → h' a = some y) : iTown e w m h' np day b kd wh mn := by
  obtain ⟨pf, fr, t, g1, g2, g3, g4, g5, g6, g7⟩ := g
  exact ⟨pf, fr, t, f _ _ (by omega) g1, f _ _ (by omega) g2, f _ _ (by omega) g3, g4, g5.fr (fun a y q => f a y (by omega)), g6.fr (fun a y q => f a y (by omega)), g7⟩
theorem iTown.put {e w m np day b a : Nat} {h : xH} {c : xE} {kd wh mn : Nat → Nat} (g : iTown e w m h np day b kd wh mn) (ha : ¬ (a = w + 1 ∨ a = w + 2 ∨ a = m + 4 ∨ e + 49 ≤ a)) : iTown e w m (xu h a c) np day b kd wh mn := g.fr (fun a' y z q => xu_at (fun e9 => ha (e9 ▸ z)) q)
/-- what can be undone -/
def aR (a np day : Nat) (kd wh mn : Nat → Nat) (u was : Nat → Int32) (ub : Nat → Nat) : Prop := a ≤ 24 ∧ a ≤ day ∧ ∀ i, i < a → u i = nI (ub i) ∧ tOK (fun q => was (21 * i + q)) np kd wh mn (day - a + i) (ub i)
theorem tOK.to {t t' : Nat → Int32} {np day b : Nat} {kd wh mn : Nat → Nat} (T : tOK t np kd wh mn day b) (h : ∀ q, q < 21 → t' q = t q) : tOK t' np kd wh mn day b := by
  obtain ⟨h1, h2, h3, h4, h5, h6, h7⟩ := T
  refine ⟨h1, (h 0 (by omega)).trans h2, (h 1 (by omega)).trans h3, h4, (h 2 (by omega)).trans h5, h6, fun p hp => ?_⟩
  rw [h _ (by omega), h _ (by omega), h _ (by omega)]
  exact h7 p hp
theorem aR_act {a np day b : Nat} {kd wh mn : Nat → Nat} {u was t : Nat → Int32} {ub : Nat → Nat} (g : aR a np day kd wh mn u was ub) (T : tOK t np kd wh mn day b) : ∃ ub', aR (keepN a) np (day + 1) kd wh mn (keepU u a (nI b)) (keepW t was a) ub' := by
  obtain ⟨g1, g2, g3⟩ := g
  by_cases c : a = 24
  · subst c
    refine ⟨fun i => if i = 23 then b else ub (i + 1), ?_⟩
    rw [keepN_24 rfl, keepU_24 rfl]
    refine ⟨Nat.le_refl _, by omega, fun i hi => ?_⟩
    unfold keepW
    rw [if_pos rfl]
    by_cases ci : i = 23
    · subst ci
      refine ⟨by simp [upd], ?_⟩
      dsimp only
      rw [if_pos rfl]
      rw [show day + 1 - 24 + 23 = day by omega]
      refine T.to (fun q hq => ?_)
      show va_cpy t _ 0 483 21 (21 * 23 + q) = t q
      rw [pk_cpy_in (by omega) (by omega), show 0 + (21 * 23 + q - 483) = q by omega]
    · obtain ⟨g4, g5⟩ := g3 (i + 1) (by omega)
      dsimp only
      rw [if_neg ci]
      refine ⟨?_, ?_⟩
      · unfold upd
        rw [if_neg ci, pk_cpy_in (by omega) (by omega), show 1 + (i - 0) = i + 1 by omega]
        exact g4
      · refine (show day + 1 - 24 + i = day - 24 + (i + 1) by omega) ▸ g5.to (fun q hq => ?_)
        show va_cpy t _ 0 483 21 (21 * i + q) = _
        rw [pk_cpy_out (by omega), pk_cpy_in (by omega) (by omega)]
        congr 1
        omega
  · refine ⟨fun i => if i = a then b else ub i, ?_⟩
    rw [keepN_n c, keepU_n c]
    refine ⟨by omega, by omega, fun i hi => ?_⟩
    unfold keepW
    rw [if_neg c]
    by_cases ci : i = a
    · subst ci
      refine ⟨by simp [upd], ?_⟩
      dsimp only
      rw [if_pos rfl]
      rw [show day + 1 - (i + 1) + i = day by omega]
      refine T.to (fun q hq => ?_)
      show va_cpy t _ 0 (21 * i) 21 (21 * i + q) = t q
      rw [pk_cpy_in (by omega) (by omega)]
      congr 1
      omega
    · obtain ⟨g4, g5⟩ := g3 i (by omega)
      dsimp only
      rw [if_neg ci]
      refine ⟨?_, ?_⟩
      · unfold upd
        rw [if_neg ci]
        exact g4
      · refine (show day + 1 - (a + 1) + i = day - a + i by omega) ▸ g5.to (fun q hq => ?_)
        show va_cpy t _ 0 (21 * a) 21 (21 * i + q) = _
        rw [pk_cpy_out (by omega)]
theorem aR_ps {a np day b : Nat} {kd wh mn : Nat → Nat} {u was t item : Nat → Int32} {ub : Nat → Nat} {F N : Nat} (g : aR a np day kd wh mn u was ub) (T : tOK t np kd wh mn day b) (hall : allB (setP item F np) N = true) (hd : day + N ≤ 9999) : ∀ k, k ≤ N → (uS u a b item F k).2 = (psS (t, was, a) item F k).2.2 ∧ ∃ ub', aR (psS (t, was, a) item F k).2.2 np (day + k) kd wh mn (uS u a b item F k).1 (psS (t, was, a) item F k).2.1 ub'
  | 0, _ => ⟨rfl, ub, g⟩
  | k + 1, hk => by
    obtain ⟨e1, ub', g1⟩ := aR_ps g T hall hd k (by omega)
    have T1 := psS_T (x := (t, was, a)) T hall hd (k := k) (by omega)
    refine ⟨?_, ?_⟩
    · show keepN (uS u a b item F k).2 = keepN (psS (t, was, a) item F k).2.2
      rw [e1]
    · have := aR_act g1 T1
      rw [← e1] at this
      show ∃ ub', aR (keepN (psS (t, was, a) item F k).2.2) np (day + k + 1) kd wh mn (keepU (uS u a b item F k).1 (uS u a b item F k).2 (nI (befN item F b k))) (keepW (psS (t, was, a) item F k).1 (psS (t, was, a) item F k).2.1 (psS (t, was, a) item F k).2.2) ub'
      rw [← e1]
      exact this
def iActs (e m : Nat) (h : xH) (a np day : Nat) (kd wh mn : Nat → Nat) : Prop := ∃ (u was : Nat → Int32) (ub : Nat → Nat), h (e + 30) = some (.inl (.int, 24, .inl u)) ∧ h (m + 6) = some (.inl (.int, 504, .inl was)) ∧ aR a np day kd wh mn u was ub
theorem iActs.fr {e m a np day : Nat} {h h' : xH} {kd wh mn : Nat → Nat} (g : iActs e m h a np day kd wh mn) (f : ∀ a y, (a = e + 30 ∨ a = m + 6) → h a = some y → h' a = some y) : iActs e m h' a np day kd wh mn := by
  obtain ⟨u, was, ub, g1, g2, g3⟩ := g
  exact ⟨u, was, ub, f _ _ (Or.inl rfl) g1, f _ _ (Or.inr rfl) g2, g3⟩
theorem iActs.put {e m a np day q : Nat} {h : xH} {c : xE} {kd wh mn : Nat → Nat} (g : iActs e m h a np day kd wh mn) (ha : ¬ (q = e + 30 ∨ q = m + 6)) : iActs e m (xu h q c) a np day kd wh mn := g.fr (fun a' y z p => xu_at (fun e9 => ha (e9 ▸ z)) p)
def iImg (e : Nat) (h : xH) (v : Nat) (o : Int32) (kp : Nat → Int32) : Prop := ∃ (np day b : Nat) (kd wh mn : Nat → Nat) (pf : Nat → Option Nat) (fr : Nat → Int32), h v = some (tO v (nI np) (nI day) (nI b) (nI (moM kd np))) ∧ h (v + 1) = some (.inl (.object "EvePost$Person", 6, .inr (.inr (.inr (.inr pf))))) ∧ h (v + 2) = some (.inl (.int, 64, .inl fr)) ∧ np ≤ 6 ∧ PW (e + 49) h pf np kd wh mn ∧ PE (e + 49) h pf ∧ frOK fr kd wh mn np ∧ ((np = 0 ∧ o = 0) ∨ (0 < np ∧ o = 1 ∧ tOK kp np kd wh mn day b))
theorem iImg.fr {e v : Nat} {h h' : xH} {o : Int32} {kp : Nat → Int32} (g : iImg e h v o kp) (f : ∀ a y, ((v ≤ a ∧ a ≤ v + 2) ∨ e + 49 ≤ a) → h a = some y → h' a = some y) : iImg e h' v o kp := by
  obtain ⟨np, day, b, kd, wh, mn, pf, fr, g1, g2, g3, g4, g5, g6, g7⟩ := g
  exact ⟨np, day, b, kd, wh, mn, pf, fr, f _ _ (by omega) g1, f _ _ (by omega) g2, f _ _ (by omega) g3, g4, g5.fr (fun a y q => f a y (by omega)), g6.fr (fun a y q => f a y (by omega)), g7⟩
def iImgs (e m : Nat) (h : xH) : Prop := ∃ (ik kept : Nat → Int32), h (e + 19) = some (.inl (.object "EvePost$Town", 2, .inr (.inr (.inr (.inr (imF e)))))) ∧ h (m + 9) = some (.inl (.boolean, 2, .inl ik)) ∧ h (m + 10) = some (.inl (.int, 42, .inl kept)) ∧ ∀ k, k < 2 → iImg e h (e + 31 + 3 * k) (ik k) (fun q => kept (21 * k + q))
theorem iImgs.fr {e m : Nat} {h h' : xH} (g : iImgs e m h) (f : ∀ a y, (a = e + 19 ∨ a = m + 9 ∨ a = m + 10 ∨ (e + 31 ≤ a ∧ a ≤ e + 36) ∨ e + 49 ≤ a) → h a = some y → h' a = some y) : iImgs e m h' := by
  obtain ⟨ik, kept, g1, g2, g3, g4⟩ := g
  exact ⟨ik, kept, f _ _ (by omega) g1, f _ _ (by omega) g2, f _ _ (by omega) g3, fun k hk => (g4 k hk).fr (fun a y q => f a y (by omega))⟩
theorem iImgs.put {e m a : Nat} {h : xH} {c : xE} (g : iImgs e m h) (ha : ¬ (a = e + 19 ∨ a = m + 9 ∨ a = m + 10 ∨ (e + 31 ≤ a ∧ a ≤ e + 36) ∨ e + 49 ≤ a)) : iImgs e m (xu h a c) := g.fr (fun a' y z p => xu_at (fun e9 => ha (e9 ▸ z)) p)
def iTrail (e m : Nat) (h : xH) (x : trS) : Prop := h (e + 28) = some (.inr (8, [.ref (e + 29), .int (nI x.2)])) ∧ h (e + 29) = some (.inl (.int, 16, .inl x.1)) ∧ h (m + 11) = some (.inl (.int, 16, .inl x.1)) ∧ x.2 ≤ 16
theorem iTrail.fr {e m : Nat} {h h' : xH} {x : trS} (g : iTrail e m h x) (f : ∀ a y, (a = e + 28 ∨ a = e + 29 ∨ a = m + 11) → h a = some y → h' a = some y) : iTrail e m h' x := ⟨f _ _ (by omega) g.1, f _ _ (by omega) g.2.1, f _ _ (by omega) g.2.2.1, g.2.2.2⟩
theorem iTrail.put {e m a : Nat} {h : xH} {c : xE} {x : trS} (g : iTrail e m h x) (ha : ¬ (a = e + 28 ∨ a = e + 29 ∨ a = m + 11)) : iTrail e m (xu h a c) x := g.fr (fun a' y z p => xu_at (fun e9 => ha (e9 ▸ z)) p)
def iFore (e m : Nat) (h : xH) : Prop := ∃ (fw : Nat → Nat → Int32) (ch fz : Nat → Int32) (pt : Nat → Option Nat), h (e + 20) = some (.inr (2, [.ref (e + 21)])) ∧ h (e + 21) = some (.inl (.array .int, 6, .inr (.inr (.inr (.inr (xmo (e + 21) 6)))))) ∧ (∀ d, d < 6 → h (e + 22 + d) = some (.inl (.int, 64, .inl (fw d)))) ∧ h (m + 8) = some (.inl (.int, 384, .inl ch)) ∧ h (m + 5) = some (.inl (.int, 21, .inl fz)) ∧ h (e + 15) = some (pAr pt)
theorem iFore.fr {e m : Nat} {h h' : xH} (g : iFore e m h) (f : ∀ a y, ((e + 20 ≤ a ∧ a ≤ e + 27) ∨ a = m + 8 ∨ a = m + 5 ∨ a = e + 15) → h a = some y → h' a = some y) : iFore e m h' := by
  obtain ⟨fw, ch, fz, pt, g1, g2, g3, g4, g5, g6⟩ := g
  exact ⟨fw, ch, fz, pt, f _ _ (by omega) g1, f _ _ (by omega) g2, fun d hd => f _ _ (by omega) (g3 d hd), f _ _ (by omega) g4, f _ _ (by omega) g5, f _ _ (by omega) g6⟩
theorem iFore.put {e m a : Nat} {h : xH} {c : xE} (g : iFore e m h) (ha : ¬ ((e + 20 ≤ a ∧ a ≤ e + 27) ∨ a = m + 8 ∨ a = m + 5 ∨ a = e + 15)) : iFore e m (xu h a c) := g.fr (fun a' y z p => xu_at (fun e9 => ha (e9 ▸ z)) p)
def INV (e w m : Nat) (h : xH) (sz : Nat) : Prop := ∃ (st la pr tk fi be le cu tk2 sa ti fm fl : Int32) (a tn np day b : Nat) (x : trS) (kd wh mn : Nat → Nat) (lane many item : Nat → Int32), h e = some (eO e w (nI a) st) ∧ h (e + 13) = some (kO e (nI tn) pr la tk fi be) ∧ h w = some (tO w (nI np) (nI day) (nI b) (nI (moM kd np))) ∧ h m = some (mO m st (nI a) (nI tn) la le cu tk2 sa ti fm fl (nI x.2)) ∧ iRows e m h lane many item ∧ iTape e m h tn ∧ iTown e w m h np day b kd wh mn ∧ iActs e m h a np day kd wh mn ∧ iImgs e m h ∧ iTrail e m h x ∧ iFore e m h ∧ e + 49 ≤ sz
/-- a call of both: they answer alike, and go on hanging together -/
def STEP (l : Launch) (Ω : xW) (e w m : Nat) (yC : MethodName) (cC : ByteArray) (nC dC : Nat) (yM : MethodName) (cM : ByteArray) (nM dM mc ms : Nat) (As : List Value) (h : xH) (sz : Nat) : Prop := ∃ (r : Int32) (h1 h2 : xH) (sz1 : Nat) (f1 f2 : List Value), h e = some (.inr (10, f1)) ∧ xC l Ω yC cC nC (some .int) dC mc ms (.ref e :: As) h sz (some (.int r)) h1 sz1 ∧ h1 m = some (.inr (11, f2)) ∧ xC l Ω yM cM nM (some .int) dM 0 0 (.ref m :: As) h1 sz1 (some (.int r)) h2 sz1 ∧ INV e w m h2 sz1

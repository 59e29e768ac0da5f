theorem rdF_y {t : Nat → Nat} {L n p f y : Nat} (hp : p ≤ L) (h : rdF t L n p = some (f, y)) : y ≤ L := by
  have r1 := (tE_rng (t := t) hp).2
  have r2 := (tE_rng (t := t) r1).2
  have r3 := (tE_rng (t := t) r2).2
  have r4 := (tE_rng (t := t) r3).2
  cases hw : wdP t L p wl_person with
  | false => rw [rdF_w hw] at h; cases h; exact hp
  | true =>
    unfold rdF at h
    repeat' split at h
    all_goals first | (cases h; assumption) | (cases h; done)
theorem rdR_y {t : Nat → Nat} {L N f9 y9 : Nat} : ∀ {f i : Nat}, rdR t L f i = (N, some (f9, y9)) → i + f = 7 → i ≤ 6 → y9 ≤ L
  | 0, i, h, hf, h6 => by omega
  | f + 1, i, h, hf, h6 => by
    by_cases c : 0 < i ∧ tK t L (pAt t L i) = 0
    · rw [rdR_e c] at h; cases h
    · cases e : rdF t L i (pAt t L i) with
      | some x =>
        rw [rdR_f c e] at h
        cases h
        exact rdF_y (pAt_le t L _) e
      | none =>
        rw [rdR_n c e] at h
        have hi := (rdF_ok e).2.1
        exact rdR_y (f := f) (i := i + 1) h (by omega) (by omega)
theorem PE_town {e : Nat} {t : Nat → Nat} {L : Nat} {fa : Int32} {N : Nat} {h : xH} {sz : Nat} {pt pw : Nat → Option Nat} {fz : Int32} {q : Nat} (hE : PE (e + 49) h pw) (hdom : ∀ a y, h a = some y → a < sz) (hR : rdR t L 7 0 = (N, none)) (hsz : e + 49 ≤ sz) : PE (e + 49) (tH e t L fa N h sz pt fz q) (cpq (pfN sz N pt) pw N) := fun i y hi hy => by
  unfold cpq pfN at hy
  by_cases c : i < N
  · rw [if_pos c, if_pos c] at hy
    cases hy
    obtain ⟨k1, k2, -⟩ := (rdR_pw hR).2.2 i c
    obtain ⟨r, r1, r2⟩ := pC_cast k1 k2
    exact ⟨by omega, _, _, r, tH_p c (by omega), r1, r2⟩
  · rw [if_neg c] at hy
    obtain ⟨g1, ci, fs, r, g2, g3⟩ := hE i y hi hy
    exact ⟨g1, ci, fs, r, tH_out (by omega) (by omega) (Or.inl (hdom _ _ g2)) g2, g3⟩
theorem tOK_fr {t : Nat → Nat} {L N : Nat} {fz t4 : Nat → Int32} (hR : rdR t L 7 0 = (N, none)) : tOK (va_cpy (frF t L (zf fz 0 21) N) t4 0 0 21) N (kdR t L) (whR t L) (mnR t L) 0 0 := by
  have g := rdR_pw hR
  have z : ∀ q, q < 21 → zf fz 0 21 q = 0 := fun q hq => if_pos (by omega)
  have T : tOK (frF t L (zf fz 0 21) N) N (kdR t L) (whR t L) (mnR t L) 0 0 := ⟨g.1, frF_0 (z 0 (by omega)) N, frF_1 (z 1 (by omega)) (by omega) (by omega) N, by omega, frF_1 (z 2 (by omega)) (by omega) (by omega) N, Nat.two_pow_pos N, fun p hp => ⟨(frF_p hp).1, (frF_p hp).2.1, (frF_p hp).2.2, g.2.2 p hp⟩⟩
  exact T.to (fun q hq => by rw [pk_cpy_in (by omega) (by omega), Nat.zero_add, Nat.sub_zero])
set_option maxRecDepth 100000 in
theorem s_town {l : Launch} {Ω : xW} {e w m : Nat} {h : xH} {sz : Nat}  (I : INV e w m h sz) (hw : w = e + 16) (hm : m = e + 37) (hdom : ∀ a y, h a = some y → a < sz) : STEP l Ω e w m yX11_town cX11_town 2 8 yX12_town cX12_town 2 5 7 21 [] h sz := by
  obtain ⟨st, la, pr, tk, fi, be, le, cu, tk2, sa, ti, fm, fl, a, tn, np, day, b, x, kd, wh, mn, lane, many, item, heo, hko, hto, hmo, R, TP, TN, AC, IM, TR, FR, hsz⟩ := id I
  obtain ⟨bt, tape, t, hbt, htape, hB, hB2, ht, htn⟩ := id TP
  obtain ⟨pf, fr, t4, htp, htf, ht4, T, hP, hE, hF⟩ := id TN
  have h6 : np ≤ 6 := T.1
  have hb : b < 2 ^ np := T.2.2.2.2.2.1
  have hday : day ≤ 9999 := T.2.2.2.1
  have h64 := pw_le h6
  obtain ⟨u, was, ub, hu, hwas, AR⟩ := id AC
  obtain ⟨ha, had, hub⟩ := id AR
  obtain ⟨fw, ch, fz, pt, hfo, hwo, hfw, hch, hfz, hpt⟩ := id FR
  cases hR : rdR t tn 7 0 with
  | mk N o9 =>
    cases o9 with
    | none =>
      have C := c_X11_town (l := l) (Ω := Ω) (sz := sz) heo hw hko hbt hB ht htn hpt hto htp htf hsz hR
      have M := c_X12_town (l := l) (Ω := Ω) (sz := sz + N) (h := (xu (xu (xu (xu (tH e t tn la N h sz pt la (pAt t tn N)) w (.inr (7, [.ref (w + 1), .int (nI N), .int (0), .int (0), .ref (w + 2), .int (nI (moM (kdR t tn) N))]))) (w + 1) (.inl (.object "EvePost$Person", 6, .inr (.inr (.inr (.inr (cpq (pfN sz N pt) pf N))))))) (w + 2) (.inl (.int, 64, .inl (frZ (kdR t tn) (whR t tn) (mnR t tn) N fr (2 ^ N))))) e (.inr (10, [.ref (e + 1), .ref (e + 13), .ref w, .ref (e + 19), .ref (e + 20), .ref (e + 28), .ref (e + 30), .int (0), .int (st)])))) (xu_at (by omega) (xu_at (by omega) (xu_at (by omega) (xu_at (by omega) (tH_out (by omega) (by omega) (by omega) hmo))))) (xu_at (by omega) (xu_at (by omega) (xu_at (by omega) (xu_at (by omega) (tH_out (by omega) (by omega) (by omega) hfz))))) (xu_at (by omega) (xu_at (by omega) (xu_at (by omega) (xu_at (by omega) (tH_out (by omega) (by omega) (by omega) ht4))))) (xu_at (by omega) (xu_at (by omega) (xu_at (by omega) (xu_at (by omega) (tH_out (by omega) (by omega) (by omega) htape))))) hB2 ht htn hR
      have g9 := rdR_pw hR
      exact ⟨_, _, _, (sz + N), _, _, heo, C, (xu_at (by omega) (xu_at (by omega) (xu_at (by omega) (xu_at (by omega) (tH_out (by omega) (by omega) (by omega) hmo))))), M, st, la, (nI N), (nI (tK t tn (pAt t tn N))), (nI (tS t tn (pAt t tn N))), (nI (tE t tn (pAt t tn N))), (nI tn), (nI (tE t tn (pAt t tn N))), (nI ((tK t tn (pAt t tn N) + 1) % 5)), (nI (tS t tn (pAt t tn N))), (nI (tE t tn (pAt t tn N))), 0, fl, 0, 0, N, 0, 0, x, (kdR t tn), (whR t tn), (mnR t tn), lane, many, item, (xu_at (by omega) (xu_at (by omega) (xu_at (by omega) (xu_s _ _ _)))), (xu_at (by omega) (xu_at (by omega) (xu_at (by omega) (xu_at (xn1 _ rfl) (xu_at (by omega) (xu_at (by omega) (xu_at (by omega) tH_13))))))), (xu_at (by omega) (xu_at (by omega) (xu_at (by omega) (xu_at (by omega) (xu_at (xn0 _ rfl) (xu_at (xn0 _ rfl) (xu_s _ _ _))))))), (xu_at (xn0 _ rfl) (xu_at (xn0 _ rfl) (xu_s _ _ _))), (R.fr (fun a9 y9 z9 q9 => (xu_at (by omega) (xu_at (by omega) (xu_at (by omega) (xu_at (by omega) (xu_at (by omega) (xu_at (by omega) (xu_at (by omega) (tH_out (by omega) (by omega) (Or.inl (hdom _ _ q9)) q9)))))))))), ⟨bt, tape, t, (xu_at (by omega) (xu_at (by omega) (xu_at (by omega) (xu_at (xn1 _ rfl) (xu_at (by omega) (xu_at (by omega) (xu_at (by omega) (tH_out (by omega) (by omega) (by omega) hbt)))))))), (xu_at (xne _ rfl) (xu_at (xne _ rfl) (xu_at (xn1 _ rfl) (xu_at (by omega) (xu_at (by omega) (xu_at (by omega) (xu_at (by omega) (tH_out (by omega) (by omega) (by omega) htape)))))))), fun q hq => absurd hq (by omega), fun q hq => absurd hq (by omega), fun q hq => absurd hq (by omega), by omega⟩, ⟨_, _, _, (xu_at (by omega) (xu_at (by omega) (xu_at (by omega) (xu_at (by omega) (xu_at (xne _ rfl) (xu_s _ _ _)))))), (xu_at (by omega) (xu_at (by omega) (xu_at (by omega) (xu_at (by omega) (xu_s _ _ _))))), (xu_s _ _ _), tOK_fr hR, ((((((((PWcp (tH_pw hR (by omega) hsz) pf).put (by omega)).put (by omega)).put (by omega)).put (by omega)).put (by omega)).put (by omega)).put (by omega)), ((((((((PE_town hE hdom hR hsz).put (by omega)).put (by omega)).put (by omega)).put (by omega)).put (by omega)).put (by omega)).put (by omega)), frZ_ok _ _ _ _ _⟩, ⟨u, was, ub, (xu_at (by omega) (xu_at (by omega) (xu_at (by omega) (xu_at (xn1 _ rfl) (xu_at (by omega) (xu_at (by omega) (xu_at (by omega) (tH_out (by omega) (by omega) (by omega) hu)))))))), (xu_at (xne _ rfl) (xu_at (xne _ rfl) (xu_at (xn1 _ rfl) (xu_at (by omega) (xu_at (by omega) (xu_at (by omega) (xu_at (by omega) (tH_out (by omega) (by omega) (by omega) hwas)))))))), ⟨by omega, by omega, fun i hi => absurd hi (by omega)⟩⟩, (IM.fr (fun a9 y9 z9 q9 => (xu_at (by omega) (xu_at (by omega) (xu_at (by omega) (xu_at (by omega) (xu_at (by omega) (xu_at (by omega) (xu_at (by omega) (tH_out (by omega) (by omega) (Or.inl (hdom _ _ q9)) q9)))))))))), (TR.fr (fun a9 y9 z9 q9 => (xu_at (by omega) (xu_at (by omega) (xu_at (by omega) (xu_at (by omega) (xu_at (by omega) (xu_at (by omega) (xu_at (by omega) (tH_out (by omega) (by omega) (Or.inl (hdom _ _ q9)) q9)))))))))), ⟨fw, ch, _, pfN sz N pt, (xu_at (by omega) (xu_at (by omega) (xu_at (by omega) (xu_at (xn1 _ rfl) (xu_at (by omega) (xu_at (by omega) (xu_at (by omega) (tH_out (by omega) (by omega) (by omega) hfo)))))))), (xu_at (by omega) (xu_at (by omega) (xu_at (by omega) (xu_at (xn1 _ rfl) (xu_at (by omega) (xu_at (by omega) (xu_at (by omega) (tH_out (by omega) (by omega) (by omega) hwo)))))))), fun d hd => (xu_at (by omega) (xu_at (by omega) (xu_at (by omega) (xu_at (by omega) (xu_at (by omega) (xu_at (by omega) (xu_at (by omega) (tH_out (by omega) (by omega) (by omega) (hfw d hd))))))))), (xu_at (xne _ rfl) (xu_at (xne _ rfl) (xu_at (xn1 _ rfl) (xu_at (by omega) (xu_at (by omega) (xu_at (by omega) (xu_at (by omega) (tH_out (by omega) (by omega) (by omega) hch)))))))), (xu_at (xne _ rfl) (xu_s _ _ _)), (xu_at (by omega) (xu_at (by omega) (xu_at (by omega) (xu_at (xn1 _ rfl) (xu_at (by omega) (xu_at (by omega) (xu_at (by omega) (tH_15 hpt))))))))⟩, (by omega)⟩
    | some x9 =>
      obtain ⟨f9, y9⟩ := x9
      have hy : tS t tn y9 ≤ 300 := Nat.le_trans (tS_spec (rdR_y hR rfl (by omega))).2.1 htn
      cases hwd : wdP t tn 0 wl_person with
      | true =>
        have C := c_X11_townF (l := l) (Ω := Ω) (sz := sz) heo hw hko hbt hB ht htn hpt hto htp htf hsz hR hy
        have M := c_X12_townF (l := l) (Ω := Ω) (sz := sz + N) (h := (tH e t tn la N h sz pt (nI f9) y9)) (tH_out (by omega) (by omega) (by omega) hmo) (tH_out (by omega) (by omega) (by omega) hfz) (tH_out (by omega) (by omega) (by omega) htape) hB2 ht htn hR hwd
        exact ⟨_, _, _, (sz + N), _, _, heo, C, (tH_out (by omega) (by omega) (by omega) hmo), M, st, (nI f9), (nI N), (nI (tK t tn y9)), (nI (tS t tn y9)), (nI (tE t tn y9)), (nI tn), (nI (tE t tn y9)), (nI ((tK t tn y9 + 1) % 5)), (nI (tS t tn y9)), (nI (tE t tn y9)), (nI f9), (nI (tS t tn y9)), a, 0, np, day, b, x, kd, wh, mn, lane, many, item, (xu_at (by omega) (xu_at (by omega) (tH_out (by omega) (by omega) (by omega) heo))), (xu_at (by omega) (xu_at (by omega) tH_13)), (xu_at (by omega) (xu_at (by omega) (tH_out (by omega) (by omega) (by omega) hto))), (xu_at (xn0 _ rfl) (xu_s _ _ _)), (R.fr (fun a9 y9 z9 q9 => (xu_at (by omega) (xu_at (by omega) (tH_out (by omega) (by omega) (Or.inl (hdom _ _ q9)) q9))))), ⟨bt, tape, t, (xu_at (by omega) (xu_at (by omega) (tH_out (by omega) (by omega) (by omega) hbt))), (xu_at (xne _ rfl) (xu_at (xn1 _ rfl) (tH_out (by omega) (by omega) (by omega) htape))), fun q hq => absurd hq (by omega), fun q hq => absurd hq (by omega), fun q hq => absurd hq (by omega), by omega⟩, (TN.fr (fun a9 y9 z9 q9 => (xu_at (by omega) (xu_at (by omega) (tH_out (by omega) (by omega) (Or.inl (hdom _ _ q9)) q9))))), (AC.fr (fun a9 y9 z9 q9 => (xu_at (by omega) (xu_at (by omega) (tH_out (by omega) (by omega) (Or.inl (hdom _ _ q9)) q9))))), (IM.fr (fun a9 y9 z9 q9 => (xu_at (by omega) (xu_at (by omega) (tH_out (by omega) (by omega) (Or.inl (hdom _ _ q9)) q9))))), (TR.fr (fun a9 y9 z9 q9 => (xu_at (by omega) (xu_at (by omega) (tH_out (by omega) (by omega) (Or.inl (hdom _ _ q9)) q9))))), ⟨fw, ch, _, pfN sz N pt, (xu_at (by omega) (xu_at (by omega) (tH_out (by omega) (by omega) (by omega) hfo))), (xu_at (by omega) (xu_at (by omega) (tH_out (by omega) (by omega) (by omega) hwo))), fun d hd => (xu_at (by omega) (xu_at (by omega) (tH_out (by omega) (by omega) (by omega) (hfw d hd)))), (xu_at (xne _ rfl) (xu_at (xn1 _ rfl) (tH_out (by omega) (by omega) (by omega) hch))), (xu_s _ _ _), (xu_at (by omega) (xu_at (by omega) (tH_15 hpt)))⟩, (by omega)⟩
      | false =>
        have hR2 : rdR t tn 7 0 = (0, some (1, 0)) := rdR_f (f := 6) (i := 0) (fun q => absurd q.1 (by omega)) (rdF_w hwd)
        have hR3 := hR.symm.trans hR2
        obtain ⟨rfl, hR4⟩ := Prod.mk.inj hR3
        obtain ⟨rfl, rfl⟩ := Prod.mk.inj (Option.some.inj hR4)
        have C := c_X11_townF (l := l) (Ω := Ω) (sz := sz) heo hw hko hbt hB ht htn hpt hto htp htf hsz hR hy
        have M := c_X12_townN (l := l) (Ω := Ω) (sz := sz + 0) (h := (tH e t tn la 0 h sz pt (nI 1) 0)) (tH_out (by omega) (by omega) (by omega) hmo) (tH_out (by omega) (by omega) (by omega) hfz) (tH_out (by omega) (by omega) (by omega) htape) hB2 ht htn hwd
        exact ⟨_, _, _, (sz + 0), _, _, heo, C, (tH_out (by omega) (by omega) (by omega) hmo), M, st, 1, (nI 0), (nI (tK t tn 0)), (nI (tS t tn 0)), (nI (tE t tn 0)), (nI tn), (nI (tE t tn 0)), (nI ((tK t tn 0 + 1) % 5)), (nI (tS t tn 0)), (nI (tE t tn 0)), 1, (nI (tS t tn 0)), a, 0, np, day, b, x, kd, wh, mn, lane, many, item, (xu_at (by omega) (xu_at (by omega) (tH_out (by omega) (by omega) (by omega) heo))), (xu_at (by omega) (xu_at (by omega) tH_13)), (xu_at (by omega) (xu_at (by omega) (tH_out (by omega) (by omega) (by omega) hto))), (xu_at (xn0 _ rfl) (xu_s _ _ _)), (R.fr (fun a9 y9 z9 q9 => (xu_at (by omega) (xu_at (by omega) (tH_out (by omega) (by omega) (Or.inl (hdom _ _ q9)) q9))))), ⟨bt, tape, t, (xu_at (by omega) (xu_at (by omega) (tH_out (by omega) (by omega) (by omega) hbt))), (xu_at (xne _ rfl) (xu_at (xn1 _ rfl) (tH_out (by omega) (by omega) (by omega) htape))), fun q hq => absurd hq (by omega), fun q hq => absurd hq (by omega), fun q hq => absurd hq (by omega), by omega⟩, (TN.fr (fun a9 y9 z9 q9 => (xu_at (by omega) (xu_at (by omega) (tH_out (by omega) (by omega) (Or.inl (hdom _ _ q9)) q9))))), (AC.fr (fun a9 y9 z9 q9 => (xu_at (by omega) (xu_at (by omega) (tH_out (by omega) (by omega) (Or.inl (hdom _ _ q9)) q9))))), (IM.fr (fun a9 y9 z9 q9 => (xu_at (by omega) (xu_at (by omega) (tH_out (by omega) (by omega) (Or.inl (hdom _ _ q9)) q9))))), (TR.fr (fun a9 y9 z9 q9 => (xu_at (by omega) (xu_at (by omega) (tH_out (by omega) (by omega) (Or.inl (hdom _ _ q9)) q9))))), ⟨fw, ch, _, pfN sz 0 pt, (xu_at (by omega) (xu_at (by omega) (tH_out (by omega) (by omega) (by omega) hfo))), (xu_at (by omega) (xu_at (by omega) (tH_out (by omega) (by omega) (by omega) hwo))), fun d hd => (xu_at (by omega) (xu_at (by omega) (tH_out (by omega) (by omega) (by omega) (hfw d hd)))), (xu_at (xne _ rfl) (xu_at (xn1 _ rfl) (tH_out (by omega) (by omega) (by omega) hch))), (xu_s _ _ _), (xu_at (by omega) (xu_at (by omega) (tH_15 hpt)))⟩, (by omega)⟩

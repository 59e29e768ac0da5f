theorem PW.cp {B : Nat} {h : xH} {p2 pw : Nat → Option Nat} {np : Nat} {kd wh mn : Nat → Nat} (g : PW B h p2 np kd wh mn) (h6 : np ≤ 6) : PW B h (bcp p2 np pw 6) np kd wh mn := fun p hp => by
  obtain ⟨⟨ap, h1, h2⟩, h4⟩ := g p hp
  refine ⟨⟨ap, ?_, h2⟩, h4⟩
  unfold bcp
  rw [if_pos (by omega), if_pos hp]
  exact h1
theorem PE.cp {B n2 : Nat} {h : xH} {p2 pw : Nat → Option Nat} (g : PE B h p2) : PE B h (bcp p2 n2 pw 6) := fun i y hi hy => by
  unfold bcp at hy
  rw [if_pos hi] at hy
  by_cases c : i < n2
  · rw [if_pos c] at hy
    exact g i y hi hy
  · rw [if_neg c] at hy
    cases hy
theorem frOK_cp {f2 fr : Nat → Int32} {np : Nat} {kd wh mn : Nat → Nat} (g : frOK f2 kd wh mn np) (h6 : np ≤ 6) : frOK (va_cpy f2 fr 0 0 64) kd wh mn np := fun q hq => by
  have h64 := pw_le h6
  rw [pk_cpy_in (by omega) (by omega), Nat.zero_add, Nat.sub_zero]
  exact g q hq
theorem iImg.kp {e v : Nat} {h : xH} {o o' : Int32} {kp kp' : Nat → Int32} (g : iImg e h v o kp) (ho : o' = o) (hk : ∀ q, q < 21 → kp' q = kp q) : iImg e h v o' kp' := by
  subst ho
  obtain ⟨np, day, b, kd, wh, mn, pf, fr, g1, g2, g3, g4, g5, g6, g7, g8⟩ := g
  refine ⟨np, day, b, kd, wh, mn, pf, fr, g1, g2, g3, g4, g5, g6, g7, ?_⟩
  rcases g8 with g8 | ⟨g8, g9, g10⟩
  · exact Or.inl g8
  · exact Or.inr ⟨g8, g9, g10.to hk⟩
set_option maxRecDepth 100000 in
theorem s_image {l : Launch} {Ω : xW} {e w m : Nat} {h : xH} {sz : Nat} {k2 : Int32} (I : INV e w m h sz) (hw : w = e + 16) (hm : m = e + 37) : STEP l Ω e w m yX11_image cX11_image 3 2 yX12_image cX12_image 3 1 0 0 [.int k2] h sz := by
  obtain ⟨st, la, pr, tk, fi, be, le, cu, tk2, sa, ti, fm, fl, a, tn, np, day, b, x, kd, wh, mn, lane, many, item, heo, hko, hto, hmo, R, TP, TN, AC, IM, TR, FR, hsz⟩ := id I
  obtain ⟨pf, fr, t4, htp, htf, ht4, T, hP, hE, hF⟩ := id TN
  have h6 : np ≤ 6 := T.1
  have hb : b < 2 ^ np := T.2.2.2.2.2.1
  have hday : day ≤ 9999 := T.2.2.2.1
  have h64 := pw_le h6
  obtain ⟨ik, kept, him, hik, hkept, hI⟩ := id IM
  by_cases hk : 0 ≤ k2.toInt ∧ k2.toInt ≤ 1
  · have tnk := (i32_tn (x := k2) (by omega)).2
    obtain ⟨n2, dy2, b2, kd2, wh2, mn2, p2, f2, hto2, htp2, htf2, h62, hP2, hE2, hF2, hor⟩ := hI k2.toNatClampNeg (by omega)
    obtain ⟨v, hv⟩ : ∃ v, v = e + 31 + 3 * k2.toNatClampNeg := ⟨_, rfl⟩
    rw [← hv] at hto2 htp2 htf2
    by_cases c0 : 0 < np
    · have C := c_X11_image (l := l) (Ω := Ω) (sz := sz) (k2 := k2) (B := e + 49) heo hw him hto htp htf hto2 htp2 htf2 h6 h62 hk hv hP (Nat.le_refl _) c0
      have M := c_X12_image (l := l) (Ω := Ω) (sz := sz) (h := (xu (xu (xu h (v + 1) (.inl (.object "EvePost$Person", 6, .inr (.inr (.inr (.inr (bcp pf np p2 6))))))) (v + 2) (.inl (.int, 64, .inl (va_cpy fr f2 0 0 64)))) v (.inr (7, [.ref (v + 1), .int (nI np), .int (nI day), .int (nI b), .ref (v + 2), .int (nI (moM kd np))])))) (k2 := k2) (xu_at (by omega) (xu_at (by omega) (xu_at (by omega) hmo))) (xu_at (by omega) (xu_at (by omega) (xu_at (by omega) ht4))) T (xu_at (by omega) (xu_at (by omega) (xu_at (by omega) hkept))) (xu_at (by omega) (xu_at (by omega) (xu_at (by omega) hik)))
      simp only [if_pos hk, if_pos c0] at M
      have hnew : ∀ k, k < 2 → iImg e ((xu (xu (xu (xu (xu h (v + 1) (.inl (.object "EvePost$Person", 6, .inr (.inr (.inr (.inr (bcp pf np p2 6))))))) (v + 2) (.inl (.int, 64, .inl (va_cpy fr f2 0 0 64)))) v (.inr (7, [.ref (v + 1), .int (nI np), .int (nI day), .int (nI b), .ref (v + 2), .int (nI (moM kd np))]))) (m + 10) (.inl (.int, 42, .inl (va_cpy t4 kept 0 (21 * k2.toNatClampNeg) 21)))) (m + 9) (.inl (.boolean, 2, .inl (upd ik k2.toNatClampNeg 1))))) (e + 31 + 3 * k) (upd ik k2.toNatClampNeg 1 k) (fun q => va_cpy t4 kept 0 (21 * k2.toNatClampNeg) 21 (21 * k + q)) := by
        intro k hk9
        by_cases ck : k = k2.toNatClampNeg
        · subst ck
          rw [← hv]
          exact ⟨np, day, b, kd, wh, mn, _, _, (xu_at (by omega) (xu_at (by omega) (xu_s _ _ _))), (xu_at (by omega) (xu_at (by omega) (xu_at (xn1 _ rfl) (xu_at (xne _ rfl) (xu_s _ _ _))))), (xu_at (by omega) (xu_at (by omega) (xu_at (xn1 _ rfl) (xu_s _ _ _)))), h6, ((((((hP.cp h6).put (by omega)).put (by omega)).put (by omega)).put (by omega)).put (by omega)), (((((hE.cp.put (by omega)).put (by omega)).put (by omega)).put (by omega)).put (by omega)), frOK_cp hF h6, Or.inr ⟨c0, by simp [upd], T.to (fun q hq => by rw [pk_cpy_in (by omega) (by omega), show 0 + (21 * k2.toNatClampNeg + q - 21 * k2.toNatClampNeg) = q by omega])⟩⟩
        · refine iImg.kp ((hI k hk9).fr (fun a9 y9 z9 q9 => (xu_at (by omega) (xu_at (by omega) (xu_at (by omega) (xu_at (by omega) (xu_at (by omega) q9))))))) (by simp [upd, ck]) (fun q hq => ?_)
          rw [pk_cpy_out (by omega)]
      exact ⟨_, _, _, sz, _, _, heo, C, (xu_at (by omega) (xu_at (by omega) (xu_at (by omega) hmo))), M, st, la, pr, tk, fi, be, le, cu, tk2, sa, ti, fm, fl, a, tn, np, day, b, x, kd, wh, mn, lane, many, item, (xu_at (by omega) (xu_at (by omega) (xu_at (by omega) (xu_at (by omega) (xu_at (by omega) heo))))), (xu_at (by omega) (xu_at (by omega) (xu_at (by omega) (xu_at (by omega) (xu_at (by omega) hko))))), (xu_at (by omega) (xu_at (by omega) (xu_at (by omega) (xu_at (by omega) (xu_at (by omega) hto))))), (xu_at (xn0 _ rfl) (xu_at (xn0 _ rfl) (xu_at (by omega) (xu_at (by omega) (xu_at (by omega) hmo))))), (((((R.put (by omega)).put (by omega)).put (by omega)).put (by omega)).put (by omega)), (((((TP.put (by omega)).put (by omega)).put (by omega)).put (by omega)).put (by omega)), (((((TN.put (by omega)).put (by omega)).put (by omega)).put (by omega)).put (by omega)), (((((AC.put (by omega)).put (by omega)).put (by omega)).put (by omega)).put (by omega)), ⟨_, _, (xu_at (by omega) (xu_at (by omega) (xu_at (by omega) (xu_at (by omega) (xu_at (by omega) him))))), (xu_s _ _ _), (xu_at (xne _ rfl) (xu_s _ _ _)), hnew⟩, (((((TR.put (by omega)).put (by omega)).put (by omega)).put (by omega)).put (by omega)), (((((FR.put (by omega)).put (by omega)).put (by omega)).put (by omega)).put (by omega)), hsz⟩
    · have C := c_X11_imageS (l := l) (Ω := Ω) (sz := sz) (k2 := k2) (B := e + 49) heo hw him hto htp htf hto2 htp2 htf2 h6 h62 hk hv (by omega)
      have M := c_X12_image (l := l) (Ω := Ω) (sz := sz) (k2 := k2) hmo ht4 T hkept hik
      simp only [if_pos hk, if_neg c0] at M
      exact ⟨_, _, _, sz, _, _, heo, C, hmo, M, I⟩
  · have C := c_X11_imageN (l := l) (Ω := Ω) (sz := sz) (k2 := k2) heo him hk
    have M := c_X12_image (l := l) (Ω := Ω) (sz := sz) (k2 := k2) hmo ht4 T hkept hik
    simp only [if_neg hk] at M
    exact ⟨_, _, _, sz, _, _, heo, C, hmo, M, I⟩
set_option maxRecDepth 100000 in
theorem s_restore {l : Launch} {Ω : xW} {e w m : Nat} {h : xH} {sz : Nat} {k2 : Int32} (I : INV e w m h sz) (hw : w = e + 16) (hm : m = e + 37) : STEP l Ω e w m yX11_restore cX11_restore 3 2 yX12_restore cX12_restore 3 1 0 0 [.int k2] h sz := by
  obtain ⟨st, la, pr, tk, fi, be, le, cu, tk2, sa, ti, fm, fl, a, tn, np, day, b, x, kd, wh, mn, lane, many, item, heo, hko, hto, hmo, R, TP, TN, AC, IM, TR, FR, hsz⟩ := id I
  obtain ⟨pf, fr, t4, htp, htf, ht4, T, hP, hE, hF⟩ := id TN
  have h6 : np ≤ 6 := T.1
  have hb : b < 2 ^ np := T.2.2.2.2.2.1
  have hday : day ≤ 9999 := T.2.2.2.1
  have h64 := pw_le h6
  obtain ⟨u, was, ub, hu, hwas, AR⟩ := id AC
  obtain ⟨ha, had, hub⟩ := id AR
  obtain ⟨ik, kept, him, hik, hkept, hI⟩ := id IM
  by_cases hk : 0 ≤ k2.toInt ∧ k2.toInt ≤ 1
  · have tnk := (i32_tn (x := k2) (by omega)).2
    obtain ⟨n2, dy2, b2, kd2, wh2, mn2, p2, f2, hto2, htp2, htf2, h62, hP2, hE2, hF2, hor⟩ := hI k2.toNatClampNeg (by omega)
    obtain ⟨v, hv⟩ : ∃ v, v = e + 31 + 3 * k2.toNatClampNeg := ⟨_, rfl⟩
    rw [← hv] at hto2 htp2 htf2
    rcases hor with ⟨c0, c1⟩ | ⟨c0, c1, T2⟩
    · have C := c_X11_restoreS (l := l) (Ω := Ω) (sz := sz) (k2 := k2) (B := e + 49) heo hw him hto htp htf hto2 htp2 htf2 h6 h62 hk hv c0
      have M := c_X12_restore (l := l) (Ω := Ω) (sz := sz) (k2 := k2) hmo ht4 hkept hik
      simp only [if_pos hk, if_pos (show (ik k2.toNatClampNeg).toInt = 0 by rw [c1]; decide)] at M
      exact ⟨_, _, _, sz, _, _, heo, C, hmo, M, I⟩
    · have C := c_X11_restore (l := l) (Ω := Ω) (sz := sz) (k2 := k2) (B := e + 49) heo hw him hto htp htf hto2 htp2 htf2 h6 h62 hk hv hP2 (Nat.le_refl _) c0
      have M := c_X12_restore (l := l) (Ω := Ω) (sz := sz) (h := (xu (xu (xu (xu h (w + 1) (.inl (.object "EvePost$Person", 6, .inr (.inr (.inr (.inr (bcp p2 n2 pf 6))))))) (w + 2) (.inl (.int, 64, .inl (va_cpy f2 fr 0 0 64)))) w (.inr (7, [.ref (w + 1), .int (nI n2), .int (nI dy2), .int (nI b2), .ref (w + 2), .int (nI (moM kd2 n2))]))) e (.inr (10, [.ref (e + 1), .ref (e + 13), .ref w, .ref (e + 19), .ref (e + 20), .ref (e + 28), .ref (e + 30), .int (0), .int (st)])))) (k2 := k2) (xu_at (by omega) (xu_at (by omega) (xu_at (by omega) (xu_at (by omega) hmo)))) (xu_at (by omega) (xu_at (by omega) (xu_at (by omega) (xu_at (by omega) ht4)))) (xu_at (by omega) (xu_at (by omega) (xu_at (by omega) (xu_at (by omega) hkept)))) (xu_at (by omega) (xu_at (by omega) (xu_at (by omega) (xu_at (by omega) hik))))
      simp only [if_pos hk, if_neg (show ¬ (ik k2.toNatClampNeg).toInt = 0 by rw [c1]; decide)] at M
      have Tn : tOK (va_cpy kept t4 (21 * k2.toNatClampNeg) 0 21) n2 kd2 wh2 mn2 dy2 b2 := T2.to (fun q hq => by rw [pk_cpy_in (by omega) (by omega), Nat.sub_zero])
      have ARn : aR 0 n2 dy2 kd2 wh2 mn2 u was ub := ⟨by omega, by omega, fun i hi => absurd hi (by omega)⟩
      exact ⟨_, _, _, sz, _, _, heo, C, (xu_at (by omega) (xu_at (by omega) (xu_at (by omega) (xu_at (by omega) hmo)))), M, st, la, pr, tk, fi, be, le, cu, tk2, sa, ti, fm, fl, 0, tn, n2, dy2, b2, x, kd2, wh2, mn2, lane, many, item, (xu_at (by omega) (xu_at (by omega) (xu_s _ _ _))), (xu_at (by omega) (xu_at (by omega) (xu_at (xn1 _ rfl) (xu_at (by omega) (xu_at (by omega) (xu_at (by omega) hko)))))), (xu_at (by omega) (xu_at (by omega) (xu_at (by omega) (xu_s _ _ _)))), (xu_s _ _ _), ((((((R.put (by omega)).put (by omega)).put (by omega)).put (by omega)).put (by omega)).put (by omega)), ((((((TP.put (by omega)).put (by omega)).put (by omega)).put (by omega)).put (by omega)).put (by omega)), ⟨_, _, _, (xu_at (by omega) (xu_at (by omega) (xu_at (by omega) (xu_at (xn1 _ rfl) (xu_at (xne _ rfl) (xu_s _ _ _)))))), (xu_at (by omega) (xu_at (by omega) (xu_at (by omega) (xu_at (xn1 _ rfl) (xu_s _ _ _))))), (xu_at (xn1 _ rfl) (xu_s _ _ _)), Tn, (((((((hP2.cp h62).put (by omega)).put (by omega)).put (by omega)).put (by omega)).put (by omega)).put (by omega)), ((((((hE2.cp.put (by omega)).put (by omega)).put (by omega)).put (by omega)).put (by omega)).put (by omega)), (frOK_cp hF2 h62)⟩, ⟨u, was, ub, (xu_at (by omega) (xu_at (by omega) (xu_at (xn1 _ rfl) (xu_at (by omega) (xu_at (by omega) (xu_at (by omega) hu)))))), (xu_at (xn1 _ rfl) (xu_at (xne _ rfl) (xu_at (by omega) (xu_at (by omega) (xu_at (by omega) (xu_at (by omega) hwas)))))), ARn⟩, ((((((IM.put (by omega)).put (by omega)).put (by omega)).put (by omega)).put (by omega)).put (by omega)), ((((((TR.put (by omega)).put (by omega)).put (by omega)).put (by omega)).put (by omega)).put (by omega)), ((((((FR.put (by omega)).put (by omega)).put (by omega)).put (by omega)).put (by omega)).put (by omega)), hsz⟩
  · have C := c_X11_restoreN (l := l) (Ω := Ω) (sz := sz) (k2 := k2) heo him hk
    have M := c_X12_restore (l := l) (Ω := Ω) (sz := sz) (k2 := k2) hmo ht4 hkept hik
    simp only [if_neg hk] at M
    exact ⟨_, _, _, sz, _, _, heo, C, hmo, M, I⟩
set_option maxRecDepth 100000 in
theorem s_ask {l : Launch} {Ω : xW} {e w m : Nat} {h : xH} {sz : Nat} {p v : Int32} (I : INV e w m h sz) (hw : w = e + 16) (hm : m = e + 37) : STEP l Ω e w m yX11_ask cX11_ask 4 6 yX12_ask cX12_ask 3 5 0 0 [.int p, .int v] h sz := by
  obtain ⟨st, la, pr, tk, fi, be, le, cu, tk2, sa, ti, fm, fl, a, tn, np, day, b, x, kd, wh, mn, lane, many, item, heo, hko, hto, hmo, R, TP, TN, AC, IM, TR, FR, hsz⟩ := id I
  obtain ⟨pf, fr, t4, htp, htf, ht4, T, hP, hE, hF⟩ := id TN
  have h6 : np ≤ 6 := T.1
  have hb : b < 2 ^ np := T.2.2.2.2.2.1
  have hday : day ≤ 9999 := T.2.2.2.1
  have h64 := pw_le h6
  obtain ⟨hq1, hq2, hq3, hx⟩ := id TR
  by_cases hp : 0 ≤ p.toInt ∧ p.toInt < np
  · have ep := (i32_tn hp.1).1
    have tp := (i32_tn hp.1).2
    have lk : p.toNatClampNeg < np := by omega
    have hkr := (hP p.toNatClampNeg lk).2
    have hkind : kd p.toNatClampNeg = 1 ∨ kd p.toNatClampNeg = 2 ∨ kd p.toNatClampNeg = 3 ∨ kd p.toNatClampNeg = 4 ∨ kd p.toNatClampNeg = 5 := by omega
    by_cases hv01 : 0 ≤ v.toInt ∧ v.toInt ≤ 1
    · by_cases hv : v.toInt = 0
      · rcases hkind with hkk | hkk | hkk | hkk | hkk
        · have C := c_X11_ask_1_0 (l := l) (Ω := Ω) (sz := sz) (p := p.toNatClampNeg) (v := v) heo hw hto htp h6 hP hb lk hq1 hq2 (Nat.le_refl _) hv hkk
          have M := c_X12_ask_1_0 (l := l) (Ω := Ω) (sz := sz) (h := (xu (xu h (e + 28) (.inr (8, [.ref (e + 29), .int (nI (bg (bg (bg (bg (x.1, 0) 11) 10) 21) 20).2)]))) (e + 29) (.inl (.int, 16, .inl ((bg (bg (bg (bg (x.1, 0) 11) 10) 21) 20).1))))) (p := p) (w := v) (xu_at (by omega) (xu_at (by omega) hmo)) (xu_at (by omega) (xu_at (by omega) hq3)) (xu_at (by omega) (xu_at (by omega) ht4)) T hp hv hkk
          rw [← ep] at C
          try rw [← ep] at M
          exact ⟨_, _, _, sz, _, _, heo, C, (xu_at (by omega) (xu_at (by omega) hmo)), M, st, la, pr, tk, fi, be, le, cu, tk2, sa, ti, fm, fl, a, tn, np, day, b, (bg (bg (bg (bg (x.1, 0) 11) 10) 21) 20), kd, wh, mn, lane, many, item, (xu_at (by omega) (xu_at (by omega) (xu_at (xn0 _ rfl) (xu_at (xn0 _ rfl) heo)))), (xu_at (by omega) (xu_at (by omega) (xu_at (xne _ rfl) (xu_at (xne _ rfl) hko)))), (xu_at (by omega) (xu_at (by omega) (xu_at (by omega) (xu_at (by omega) hto)))), (xu_s _ _ _), ((((R.put (by omega)).put (by omega)).put (by omega)).put (by omega)), ((((TP.put (by omega)).put (by omega)).put (by omega)).put (by omega)), ((((TN.put (by omega)).put (by omega)).put (by omega)).put (by omega)), ((((AC.put (by omega)).put (by omega)).put (by omega)).put (by omega)), ((((IM.put (by omega)).put (by omega)).put (by omega)).put (by omega)), ⟨(xu_at (by omega) (xu_at (by omega) (xu_at (xne _ rfl) (xu_s _ _ _)))), (xu_at (by omega) (xu_at (by omega) (xu_s _ _ _))), (xu_at (xn1 _ rfl) (xu_s _ _ _)), (bg_le (bg_le (bg_le (bg_le (Nat.zero_le _)))))⟩, ((((FR.put (by omega)).put (by omega)).put (by omega)).put (by omega)), hsz⟩
        · have C := c_X11_ask_2_0 (l := l) (Ω := Ω) (sz := sz) (p := p.toNatClampNeg) (v := v) heo hw hto htp h6 hP hb lk hq1 hq2 (Nat.le_refl _) hv hkk
          have M := c_X12_ask_2_0 (l := l) (Ω := Ω) (sz := sz) (h := (xu (xu h (e + 28) (.inr (8, [.ref (e + 29), .int (nI (bg (bg (bg (bg (bg (bg (x.1, 0) 12) 11) 10) 24) 21) 20).2)]))) (e + 29) (.inl (.int, 16, .inl ((bg (bg (bg (bg (bg (bg (x.1, 0) 12) 11) 10) 24) 21) 20).1))))) (p := p) (w := v) (xu_at (by omega) (xu_at (by omega) hmo)) (xu_at (by omega) (xu_at (by omega) hq3)) (xu_at (by omega) (xu_at (by omega) ht4)) T hp hv hkk
          rw [← ep] at C
          try rw [← ep] at M
          exact ⟨_, _, _, sz, _, _, heo, C, (xu_at (by omega) (xu_at (by omega) hmo)), M, st, la, pr, tk, fi, be, le, cu, tk2, sa, ti, fm, fl, a, tn, np, day, b, (bg (bg (bg (bg (bg (bg (x.1, 0) 12) 11) 10) 24) 21) 20), kd, wh, mn, lane, many, item, (xu_at (by omega) (xu_at (by omega) (xu_at (xn0 _ rfl) (xu_at (xn0 _ rfl) heo)))), (xu_at (by omega) (xu_at (by omega) (xu_at (xne _ rfl) (xu_at (xne _ rfl) hko)))), (xu_at (by omega) (xu_at (by omega) (xu_at (by omega) (xu_at (by omega) hto)))), (xu_s _ _ _), ((((R.put (by omega)).put (by omega)).put (by omega)).put (by omega)), ((((TP.put (by omega)).put (by omega)).put (by omega)).put (by omega)), ((((TN.put (by omega)).put (by omega)).put (by omega)).put (by omega)), ((((AC.put (by omega)).put (by omega)).put (by omega)).put (by omega)), ((((IM.put (by omega)).put (by omega)).put (by omega)).put (by omega)), ⟨(xu_at (by omega) (xu_at (by omega) (xu_at (xne _ rfl) (xu_s _ _ _)))), (xu_at (by omega) (xu_at (by omega) (xu_s _ _ _))), (xu_at (xn1 _ rfl) (xu_s _ _ _)), (bg_le (bg_le (bg_le (bg_le (bg_le (bg_le (Nat.zero_le _)))))))⟩, ((((FR.put (by omega)).put (by omega)).put (by omega)).put (by omega)), hsz⟩
        · have C := c_X11_ask_3_0 (l := l) (Ω := Ω) (sz := sz) (p := p.toNatClampNeg) (v := v) heo hw hto htp h6 hP hb lk hq1 hq2 (Nat.le_refl _) hv hkk
          have M := c_X12_ask_3_0 (l := l) (Ω := Ω) (sz := sz) (h := (xu (xu h (e + 28) (.inr (8, [.ref (e + 29), .int (nI (bg (bg (bg (bg (bg (x.1, 0) 11) 10) 22) 21) 20).2)]))) (e + 29) (.inl (.int, 16, .inl ((bg (bg (bg (bg (bg (x.1, 0) 11) 10) 22) 21) 20).1))))) (p := p) (w := v) (xu_at (by omega) (xu_at (by omega) hmo)) (xu_at (by omega) (xu_at (by omega) hq3)) (xu_at (by omega) (xu_at (by omega) ht4)) T hp hv hkk
          rw [← ep] at C
          try rw [← ep] at M
          exact ⟨_, _, _, sz, _, _, heo, C, (xu_at (by omega) (xu_at (by omega) hmo)), M, st, la, pr, tk, fi, be, le, cu, tk2, sa, ti, fm, fl, a, tn, np, day, b, (bg (bg (bg (bg (bg (x.1, 0) 11) 10) 22) 21) 20), kd, wh, mn, lane, many, item, (xu_at (by omega) (xu_at (by omega) (xu_at (xn0 _ rfl) (xu_at (xn0 _ rfl) heo)))), (xu_at (by omega) (xu_at (by omega) (xu_at (xne _ rfl) (xu_at (xne _ rfl) hko)))), (xu_at (by omega) (xu_at (by omega) (xu_at (by omega) (xu_at (by omega) hto)))), (xu_s _ _ _), ((((R.put (by omega)).put (by omega)).put (by omega)).put (by omega)), ((((TP.put (by omega)).put (by omega)).put (by omega)).put (by omega)), ((((TN.put (by omega)).put (by omega)).put (by omega)).put (by omega)), ((((AC.put (by omega)).put (by omega)).put (by omega)).put (by omega)), ((((IM.put (by omega)).put (by omega)).put (by omega)).put (by omega)), ⟨(xu_at (by omega) (xu_at (by omega) (xu_at (xne _ rfl) (xu_s _ _ _)))), (xu_at (by omega) (xu_at (by omega) (xu_s _ _ _))), (xu_at (xn1 _ rfl) (xu_s _ _ _)), (bg_le (bg_le (bg_le (bg_le (bg_le (Nat.zero_le _))))))⟩, ((((FR.put (by omega)).put (by omega)).put (by omega)).put (by omega)), hsz⟩
        · have C := c_X11_ask_4_0 (l := l) (Ω := Ω) (sz := sz) (p := p.toNatClampNeg) (v := v) heo hw hto htp h6 hP hb lk hq1 hq2 (Nat.le_refl _) hv hkk
          have M := c_X12_ask_4_0 (l := l) (Ω := Ω) (sz := sz) (h := (xu (xu h (e + 28) (.inr (8, [.ref (e + 29), .int (nI (bg (bg (x.1, 0) 13) 10).2)]))) (e + 29) (.inl (.int, 16, .inl ((bg (bg (x.1, 0) 13) 10).1))))) (p := p) (w := v) (xu_at (by omega) (xu_at (by omega) hmo)) (xu_at (by omega) (xu_at (by omega) hq3)) (xu_at (by omega) (xu_at (by omega) ht4)) T hp hv hkk
          rw [← ep] at C
          try rw [← ep] at M
          exact ⟨_, _, _, sz, _, _, heo, C, (xu_at (by omega) (xu_at (by omega) hmo)), M, st, la, pr, tk, fi, be, le, cu, tk2, sa, ti, fm, fl, a, tn, np, day, b, (bg (bg (x.1, 0) 13) 10), kd, wh, mn, lane, many, item, (xu_at (by omega) (xu_at (by omega) (xu_at (xn0 _ rfl) (xu_at (xn0 _ rfl) heo)))), (xu_at (by omega) (xu_at (by omega) (xu_at (xne _ rfl) (xu_at (xne _ rfl) hko)))), (xu_at (by omega) (xu_at (by omega) (xu_at (by omega) (xu_at (by omega) hto)))), (xu_s _ _ _), ((((R.put (by omega)).put (by omega)).put (by omega)).put (by omega)), ((((TP.put (by omega)).put (by omega)).put (by omega)).put (by omega)), ((((TN.put (by omega)).put (by omega)).put (by omega)).put (by omega)), ((((AC.put (by omega)).put (by omega)).put (by omega)).put (by omega)), ((((IM.put (by omega)).put (by omega)).put (by omega)).put (by omega)), ⟨(xu_at (by omega) (xu_at (by omega) (xu_at (xne _ rfl) (xu_s _ _ _)))), (xu_at (by omega) (xu_at (by omega) (xu_s _ _ _))), (xu_at (xn1 _ rfl) (xu_s _ _ _)), (bg_le (bg_le (Nat.zero_le _)))⟩, ((((FR.put (by omega)).put (by omega)).put (by omega)).put (by omega)), hsz⟩
        · have C := c_X11_ask_5_0 (l := l) (Ω := Ω) (sz := sz) (p := p.toNatClampNeg) (v := v) heo hw hto htp h6 hP hb lk hq1 hq2 (Nat.le_refl _) hv hkk
          have M := c_X12_ask_5_0 (l := l) (Ω := Ω) (sz := sz) (h := (xu (xu h (e + 28) (.inr (8, [.ref (e + 29), .int (nI (bg (bg (bg (x.1, 0) 14) 13) 10).2)]))) (e + 29) (.inl (.int, 16, .inl ((bg (bg (bg (x.1, 0) 14) 13) 10).1))))) (p := p) (w := v) (xu_at (by omega) (xu_at (by omega) hmo)) (xu_at (by omega) (xu_at (by omega) hq3)) (xu_at (by omega) (xu_at (by omega) ht4)) T hp hv hkk
          rw [← ep] at C
          try rw [← ep] at M
          exact ⟨_, _, _, sz, _, _, heo, C, (xu_at (by omega) (xu_at (by omega) hmo)), M, st, la, pr, tk, fi, be, le, cu, tk2, sa, ti, fm, fl, a, tn, np, day, b, (bg (bg (bg (x.1, 0) 14) 13) 10), kd, wh, mn, lane, many, item, (xu_at (by omega) (xu_at (by omega) (xu_at (xn0 _ rfl) (xu_at (xn0 _ rfl) heo)))), (xu_at (by omega) (xu_at (by omega) (xu_at (xne _ rfl) (xu_at (xne _ rfl) hko)))), (xu_at (by omega) (xu_at (by omega) (xu_at (by omega) (xu_at (by omega) hto)))), (xu_s _ _ _), ((((R.put (by omega)).put (by omega)).put (by omega)).put (by omega)), ((((TP.put (by omega)).put (by omega)).put (by omega)).put (by omega)), ((((TN.put (by omega)).put (by omega)).put (by omega)).put (by omega)), ((((AC.put (by omega)).put (by omega)).put (by omega)).put (by omega)), ((((IM.put (by omega)).put (by omega)).put (by omega)).put (by omega)), ⟨(xu_at (by omega) (xu_at (by omega) (xu_at (xne _ rfl) (xu_s _ _ _)))), (xu_at (by omega) (xu_at (by omega) (xu_s _ _ _))), (xu_at (xn1 _ rfl) (xu_s _ _ _)), (bg_le (bg_le (bg_le (Nat.zero_le _))))⟩, ((((FR.put (by omega)).put (by omega)).put (by omega)).put (by omega)), hsz⟩
      · have hv : v.toInt = 1 := by omega
        rcases hkind with hkk | hkk | hkk | hkk | hkk
        · have C := c_X11_ask_1_1 (l := l) (Ω := Ω) (sz := sz) (p := p.toNatClampNeg) (v := v) heo hw hto htp h6 hP hb lk hq1 hq2 (Nat.le_refl _) hv hkk
          have M := c_X12_ask_1_1 (l := l) (Ω := Ω) (sz := sz) (h := (xu (xu h (e + 28) (.inr (8, [.ref (e + 29), .int (nI (bg (bg (x.1, 0) 21) 20).2)]))) (e + 29) (.inl (.int, 16, .inl ((bg (bg (x.1, 0) 21) 20).1))))) (p := p) (w := v) (xu_at (by omega) (xu_at (by omega) hmo)) (xu_at (by omega) (xu_at (by omega) hq3)) (xu_at (by omega) (xu_at (by omega) ht4)) T hp hv hkk
          rw [← ep] at C
          try rw [← ep] at M
          exact ⟨_, _, _, sz, _, _, heo, C, (xu_at (by omega) (xu_at (by omega) hmo)), M, st, la, pr, tk, fi, be, le, cu, tk2, sa, ti, fm, fl, a, tn, np, day, b, (bg (bg (x.1, 0) 21) 20), kd, wh, mn, lane, many, item, (xu_at (by omega) (xu_at (by omega) (xu_at (xn0 _ rfl) (xu_at (xn0 _ rfl) heo)))), (xu_at (by omega) (xu_at (by omega) (xu_at (xne _ rfl) (xu_at (xne _ rfl) hko)))), (xu_at (by omega) (xu_at (by omega) (xu_at (by omega) (xu_at (by omega) hto)))), (xu_s _ _ _), ((((R.put (by omega)).put (by omega)).put (by omega)).put (by omega)), ((((TP.put (by omega)).put (by omega)).put (by omega)).put (by omega)), ((((TN.put (by omega)).put (by omega)).put (by omega)).put (by omega)), ((((AC.put (by omega)).put (by omega)).put (by omega)).put (by omega)), ((((IM.put (by omega)).put (by omega)).put (by omega)).put (by omega)), ⟨(xu_at (by omega) (xu_at (by omega) (xu_at (xne _ rfl) (xu_s _ _ _)))), (xu_at (by omega) (xu_at (by omega) (xu_s _ _ _))), (xu_at (xn1 _ rfl) (xu_s _ _ _)), (bg_le (bg_le (Nat.zero_le _)))⟩, ((((FR.put (by omega)).put (by omega)).put (by omega)).put (by omega)), hsz⟩
        · have C := c_X11_ask_2_1 (l := l) (Ω := Ω) (sz := sz) (p := p.toNatClampNeg) (v := v) heo hw hto htp h6 hP hb lk hq1 hq2 (Nat.le_refl _) hv hkk
          have M := c_X12_ask_2_1 (l := l) (Ω := Ω) (sz := sz) (h := (xu (xu h (e + 28) (.inr (8, [.ref (e + 29), .int (nI (bg (bg (bg (x.1, 0) 24) 21) 20).2)]))) (e + 29) (.inl (.int, 16, .inl ((bg (bg (bg (x.1, 0) 24) 21) 20).1))))) (p := p) (w := v) (xu_at (by omega) (xu_at (by omega) hmo)) (xu_at (by omega) (xu_at (by omega) hq3)) (xu_at (by omega) (xu_at (by omega) ht4)) T hp hv hkk
          rw [← ep] at C
          try rw [← ep] at M
          exact ⟨_, _, _, sz, _, _, heo, C, (xu_at (by omega) (xu_at (by omega) hmo)), M, st, la, pr, tk, fi, be, le, cu, tk2, sa, ti, fm, fl, a, tn, np, day, b, (bg (bg (bg (x.1, 0) 24) 21) 20), kd, wh, mn, lane, many, item, (xu_at (by omega) (xu_at (by omega) (xu_at (xn0 _ rfl) (xu_at (xn0 _ rfl) heo)))), (xu_at (by omega) (xu_at (by omega) (xu_at (xne _ rfl) (xu_at (xne _ rfl) hko)))), (xu_at (by omega) (xu_at (by omega) (xu_at (by omega) (xu_at (by omega) hto)))), (xu_s _ _ _), ((((R.put (by omega)).put (by omega)).put (by omega)).put (by omega)), ((((TP.put (by omega)).put (by omega)).put (by omega)).put (by omega)), ((((TN.put (by omega)).put (by omega)).put (by omega)).put (by omega)), ((((AC.put (by omega)).put (by omega)).put (by omega)).put (by omega)), ((((IM.put (by omega)).put (by omega)).put (by omega)).put (by omega)), ⟨(xu_at (by omega) (xu_at (by omega) (xu_at (xne _ rfl) (xu_s _ _ _)))), (xu_at (by omega) (xu_at (by omega) (xu_s _ _ _))), (xu_at (xn1 _ rfl) (xu_s _ _ _)), (bg_le (bg_le (bg_le (Nat.zero_le _))))⟩, ((((FR.put (by omega)).put (by omega)).put (by omega)).put (by omega)), hsz⟩
        · have C := c_X11_ask_3_1 (l := l) (Ω := Ω) (sz := sz) (p := p.toNatClampNeg) (v := v) heo hw hto htp h6 hP hb lk hq1 hq2 (Nat.le_refl _) hv hkk
          have M := c_X12_ask_3_1 (l := l) (Ω := Ω) (sz := sz) (h := (xu (xu h (e + 28) (.inr (8, [.ref (e + 29), .int (nI (bg (bg (bg (x.1, 0) 22) 21) 20).2)]))) (e + 29) (.inl (.int, 16, .inl ((bg (bg (bg (x.1, 0) 22) 21) 20).1))))) (p := p) (w := v) (xu_at (by omega) (xu_at (by omega) hmo)) (xu_at (by omega) (xu_at (by omega) hq3)) (xu_at (by omega) (xu_at (by omega) ht4)) T hp hv hkk
          rw [← ep] at C
          try rw [← ep] at M
          exact ⟨_, _, _, sz, _, _, heo, C, (xu_at (by omega) (xu_at (by omega) hmo)), M, st, la, pr, tk, fi, be, le, cu, tk2, sa, ti, fm, fl, a, tn, np, day, b, (bg (bg (bg (x.1, 0) 22) 21) 20), kd, wh, mn, lane, many, item, (xu_at (by omega) (xu_at (by omega) (xu_at (xn0 _ rfl) (xu_at (xn0 _ rfl) heo)))), (xu_at (by omega) (xu_at (by omega) (xu_at (xne _ rfl) (xu_at (xne _ rfl) hko)))), (xu_at (by omega) (xu_at (by omega) (xu_at (by omega) (xu_at (by omega) hto)))), (xu_s _ _ _), ((((R.put (by omega)).put (by omega)).put (by omega)).put (by omega)), ((((TP.put (by omega)).put (by omega)).put (by omega)).put (by omega)), ((((TN.put (by omega)).put (by omega)).put (by omega)).put (by omega)), ((((AC.put (by omega)).put (by omega)).put (by omega)).put (by omega)), ((((IM.put (by omega)).put (by omega)).put (by omega)).put (by omega)), ⟨(xu_at (by omega) (xu_at (by omega) (xu_at (xne _ rfl) (xu_s _ _ _)))), (xu_at (by omega) (xu_at (by omega) (xu_s _ _ _))), (xu_at (xn1 _ rfl) (xu_s _ _ _)), (bg_le (bg_le (bg_le (Nat.zero_le _))))⟩, ((((FR.put (by omega)).put (by omega)).put (by omega)).put (by omega)), hsz⟩
        · have C := c_X11_ask_4_1 (l := l) (Ω := Ω) (sz := sz) (p := p.toNatClampNeg) (v := v) heo hw hto htp h6 hP hb lk hq1 hq2 (Nat.le_refl _) hv hkk
          have M := c_X12_ask_4_1 (l := l) (Ω := Ω) (sz := sz) (h := (xu (xu h (e + 28) (.inr (8, [.ref (e + 29), .int (nI (bg (bg (bg (bg (x.1, 0) 23) 20) 13) 10).2)]))) (e + 29) (.inl (.int, 16, .inl ((bg (bg (bg (bg (x.1, 0) 23) 20) 13) 10).1))))) (p := p) (w := v) (xu_at (by omega) (xu_at (by omega) hmo)) (xu_at (by omega) (xu_at (by omega) hq3)) (xu_at (by omega) (xu_at (by omega) ht4)) T hp hv hkk
          rw [← ep] at C
          try rw [← ep] at M
          exact ⟨_, _, _, sz, _, _, heo, C, (xu_at (by omega) (xu_at (by omega) hmo)), M, st, la, pr, tk, fi, be, le, cu, tk2, sa, ti, fm, fl, a, tn, np, day, b, (bg (bg (bg (bg (x.1, 0) 23) 20) 13) 10), kd, wh, mn, lane, many, item, (xu_at (by omega) (xu_at (by omega) (xu_at (xn0 _ rfl) (xu_at (xn0 _ rfl) heo)))), (xu_at (by omega) (xu_at (by omega) (xu_at (xne _ rfl) (xu_at (xne _ rfl) hko)))), (xu_at (by omega) (xu_at (by omega) (xu_at (by omega) (xu_at (by omega) hto)))), (xu_s _ _ _), ((((R.put (by omega)).put (by omega)).put (by omega)).put (by omega)), ((((TP.put (by omega)).put (by omega)).put (by omega)).put (by omega)), ((((TN.put (by omega)).put (by omega)).put (by omega)).put (by omega)), ((((AC.put (by omega)).put (by omega)).put (by omega)).put (by omega)), ((((IM.put (by omega)).put (by omega)).put (by omega)).put (by omega)), ⟨(xu_at (by omega) (xu_at (by omega) (xu_at (xne _ rfl) (xu_s _ _ _)))), (xu_at (by omega) (xu_at (by omega) (xu_s _ _ _))), (xu_at (xn1 _ rfl) (xu_s _ _ _)), (bg_le (bg_le (bg_le (bg_le (Nat.zero_le _)))))⟩, ((((FR.put (by omega)).put (by omega)).put (by omega)).put (by omega)), hsz⟩
        · have C := c_X11_ask_5_1 (l := l) (Ω := Ω) (sz := sz) (p := p.toNatClampNeg) (v := v) heo hw hto htp h6 hP hb lk hq1 hq2 (Nat.le_refl _) hv hkk
          have M := c_X12_ask_5_1 (l := l) (Ω := Ω) (sz := sz) (h := (xu (xu h (e + 28) (.inr (8, [.ref (e + 29), .int (nI (bg (bg (bg (bg (bg (x.1, 0) 23) 20) 14) 13) 10).2)]))) (e + 29) (.inl (.int, 16, .inl ((bg (bg (bg (bg (bg (x.1, 0) 23) 20) 14) 13) 10).1))))) (p := p) (w := v) (xu_at (by omega) (xu_at (by omega) hmo)) (xu_at (by omega) (xu_at (by omega) hq3)) (xu_at (by omega) (xu_at (by omega) ht4)) T hp hv hkk
          rw [← ep] at C
          try rw [← ep] at M
          exact ⟨_, _, _, sz, _, _, heo, C, (xu_at (by omega) (xu_at (by omega) hmo)), M, st, la, pr, tk, fi, be, le, cu, tk2, sa, ti, fm, fl, a, tn, np, day, b, (bg (bg (bg (bg (bg (x.1, 0) 23) 20) 14) 13) 10), kd, wh, mn, lane, many, item, (xu_at (by omega) (xu_at (by omega) (xu_at (xn0 _ rfl) (xu_at (xn0 _ rfl) heo)))), (xu_at (by omega) (xu_at (by omega) (xu_at (xne _ rfl) (xu_at (xne _ rfl) hko)))), (xu_at (by omega) (xu_at (by omega) (xu_at (by omega) (xu_at (by omega) hto)))), (xu_s _ _ _), ((((R.put (by omega)).put (by omega)).put (by omega)).put (by omega)), ((((TP.put (by omega)).put (by omega)).put (by omega)).put (by omega)), ((((TN.put (by omega)).put (by omega)).put (by omega)).put (by omega)), ((((AC.put (by omega)).put (by omega)).put (by omega)).put (by omega)), ((((IM.put (by omega)).put (by omega)).put (by omega)).put (by omega)), ⟨(xu_at (by omega) (xu_at (by omega) (xu_at (xne _ rfl) (xu_s _ _ _)))), (xu_at (by omega) (xu_at (by omega) (xu_s _ _ _))), (xu_at (xn1 _ rfl) (xu_s _ _ _)), (bg_le (bg_le (bg_le (bg_le (bg_le (Nat.zero_le _))))))⟩, ((((FR.put (by omega)).put (by omega)).put (by omega)).put (by omega)), hsz⟩
    · have C := c_X11_askV (l := l) (Ω := Ω) (sz := sz) (p := p.toNatClampNeg) (v := v) heo hw hto htp h6 hP hb lk hv01
      have M := c_X12_ask_bad (l := l) (Ω := Ω) (sz := sz) (p := p) (w := v) hmo hq3 ht4 T (fun q => hv01 q.2)
      rw [← ep] at C
      exact ⟨_, _, _, sz, _, _, heo, C, hmo, M, I⟩
  · have C := c_X11_askN (l := l) (Ω := Ω) (sz := sz) (x := p) (v := v) heo hw hto htp h6 hp
    have M := c_X12_ask_bad (l := l) (Ω := Ω) (sz := sz) (p := p) (w := v) hmo hq3 ht4 T (fun q => hp q.1)
    exact ⟨_, _, _, sz, _, _, heo, C, hmo, M, I⟩
set_option maxRecDepth 100000 in
theorem s_chains {l : Launch} {Ω : xW} {e w m : Nat} {h : xH} {sz : Nat} {n k2 : Int32} (I : INV e w m h sz) (hw : w = e + 16) (hm : m = e + 37) : STEP l Ω e w m yX11_chains cX11_chains 4 5 yX12_chains cX12_chains 6 5 0 0 [.int n, .int k2] h sz := by
  obtain ⟨st, la, pr, tk, fi, be, le, cu, tk2, sa, ti, fm, fl, a, tn, np, day, b, x, kd, wh, mn, lane, many, item, heo, hko, hto, hmo, R, TP, TN, AC, IM, TR, FR, hsz⟩ := id I
  obtain ⟨pf, fr, t4, htp, htf, ht4, T, hP, hE, hF⟩ := id TN
  have h6 : np ≤ 6 := T.1
  have hb : b < 2 ^ np := T.2.2.2.2.2.1
  have hday : day ≤ 9999 := T.2.2.2.1
  have h64 := pw_le h6
  obtain ⟨fw, ch, fz, pt, hfo, hwo, hfw, hch, hfz, hpt⟩ := id FR
  by_cases c0 : 0 < np
  · by_cases c1 : (1 ≤ n.toInt ∧ n.toInt ≤ 5) ∧ -1 ≤ k2.toInt
    · have tnn := (i32_tn (x := n) (by omega)).2
      have C := c_X11_chains (l := l) (Ω := Ω) (sz := sz) (n := n) (k2 := k2) heo hw hfo hto htf h6 hF hwo hfw hb
      have M := c_X12_chains (l := l) (Ω := Ω) (sz := sz) (h := (wH kd wh mn np fw e h (n.toNatClampNeg + 1))) (n := n) (k2 := k2) (wH_out (by omega) hmo) (wH_out (by omega) ht4) T (wH_out (by omega) hch)
      simp only [if_pos c0, if_pos c1] at C M
      have hnew : ∀ d, d < 6 → (xu (wH kd wh mn np fw e h (n.toNatClampNeg + 1)) (m + 8) (.inl (.int, 384, .inl (laC kd wh mn np ch 6)))) (e + 22 + d) = some (.inl (.int, 64, .inl ((fun d => if d < n.toNatClampNeg + 1 then rwF kd wh mn np (fw d) d else fw d) d))) := by
        intro d hd
        dsimp only
        refine xu_at (by omega) ?_
        by_cases cd : d < n.toNatClampNeg + 1
        · rw [if_pos cd]; exact wH_at cd
        · rw [if_neg cd]; exact wH_out (by omega) (hfw d hd)
      exact ⟨_, _, _, sz, _, _, heo, C, (wH_out (by omega) hmo), M, st, la, pr, tk, fi, be, le, cu, tk2, sa, ti, fm, fl, a, tn, np, day, b, x, kd, wh, mn, lane, many, item, (xu_at (by omega) (wH_out (by omega) heo)), (xu_at (by omega) (wH_out (by omega) hko)), (xu_at (by omega) (wH_out (by omega) hto)), (xu_at (xn0 _ rfl) (wH_out (by omega) hmo)), (R.fr (fun a9 y9 z9 q9 => xu_at (by omega) (wH_out (by omega) q9))), (TP.fr (fun a9 y9 z9 q9 => xu_at (by omega) (wH_out (by omega) q9))), (TN.fr (fun a9 y9 z9 q9 => xu_at (by omega) (wH_out (by omega) q9))), (AC.fr (fun a9 y9 z9 q9 => xu_at (by omega) (wH_out (by omega) q9))), (IM.fr (fun a9 y9 z9 q9 => xu_at (by omega) (wH_out (by omega) q9))), (TR.fr (fun a9 y9 z9 q9 => xu_at (by omega) (wH_out (by omega) q9))), ⟨(fun d => if d < n.toNatClampNeg + 1 then rwF kd wh mn np (fw d) d else fw d), _, fz, pt, (xu_at (by omega) (wH_out (by omega) hfo)), (xu_at (by omega) (wH_out (by omega) hwo)), hnew, (xu_s _ _ _), (xu_at (xne _ rfl) (wH_out (by omega) hfz)), (xu_at (by omega) (wH_out (by omega) hpt))⟩, hsz⟩
    · have C := c_X11_chains (l := l) (Ω := Ω) (sz := sz) (n := n) (k2 := k2) heo hw hfo hto htf h6 hF hwo hfw hb
      have M := c_X12_chains (l := l) (Ω := Ω) (sz := sz) (n := n) (k2 := k2) hmo ht4 T hch
      simp only [if_pos c0, if_neg c1] at C M
      exact ⟨_, _, _, sz, _, _, heo, C, hmo, M, I⟩
  · have C := c_X11_chains (l := l) (Ω := Ω) (sz := sz) (n := n) (k2 := k2) heo hw hfo hto htf h6 hF hwo hfw hb
    have M := c_X12_chains (l := l) (Ω := Ω) (sz := sz) (n := n) (k2 := k2) hmo ht4 T hch
    simp only [if_neg c0] at C M
    exact ⟨_, _, _, sz, _, _, heo, C, hmo, M, I⟩

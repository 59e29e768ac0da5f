set_option maxRecDepth 100000 in
theorem s_done {l : Launch} {Ω : xW} {e w m : Nat} {h : xH} {sz : Nat} {s : Int32} (I : INV e w m h sz) (hw : w = e + 16) (hm : m = e + 37) : STEP l Ω e w m yX11_done cX11_done 2 3 yX12_done cX12_done 2 3 0 0 [.int s] h sz := by
  obtain ⟨st, la, pr, tk, fi, be, le, cu, tk2, sa, ti, fm, fl, a, tn, np, day, b, x, kd, wh, mn, lane, many, item, heo, hko, hto, hmo, R, TP, TN, AC, IM, TR, FR, hsz⟩ := id I
  obtain ⟨pf, fr, t4, htp, htf, ht4, T, hP, hE, hF⟩ := id TN
  have h6 : np ≤ 6 := T.1
  have hb : b < 2 ^ np := T.2.2.2.2.2.1
  have hday : day ≤ 9999 := T.2.2.2.1
  have h64 := pw_le h6
  obtain ⟨fw, ch, fz, pt, hfo, hwo, hfw, hch, hfz, hpt⟩ := id FR
  have C := c_X11_done (l := l) (Ω := Ω) (sz := sz) (s := s) heo hw hfo hto htf h6 hF hb
  have M := c_X12_done (l := l) (Ω := Ω) (sz := sz) (s := s) hmo ht4 T
  exact ⟨_, _, _, sz, _, _, heo, C, hmo, M, I⟩
set_option maxRecDepth 100000 in
theorem s_agreeing {l : Launch} {Ω : xW} {e w m : Nat} {h : xH} {sz : Nat} {i : Int32} (I : INV e w m h sz) (hw : w = e + 16) (hm : m = e + 37) : STEP l Ω e w m yX11_agreeing cX11_agreeing 2 5 yX12_agreeing cX12_agreeing 4 4 0 0 [.int i] h sz := by
  obtain ⟨st, la, pr, tk, fi, be, le, cu, tk2, sa, ti, fm, fl, a, tn, np, day, b, x, kd, wh, mn, lane, many, item, heo, hko, hto, hmo, R, TP, TN, AC, IM, TR, FR, hsz⟩ := id I
  obtain ⟨pf, fr, t4, htp, htf, ht4, T, hP, hE, hF⟩ := id TN
  have h6 : np ≤ 6 := T.1
  have hb : b < 2 ^ np := T.2.2.2.2.2.1
  have hday : day ≤ 9999 := T.2.2.2.1
  have h64 := pw_le h6
  obtain ⟨fw, ch, fz, pt, hfo, hwo, hfw, hch, hfz, hpt⟩ := id FR
  have C := c_X11_agreeing (l := l) (Ω := Ω) (sz := sz) (i := i) heo hw hfo hto htf h6 hF hb
  have M := c_X12_agreeing (l := l) (Ω := Ω) (sz := sz) (i := i) hmo ht4 T
  exact ⟨_, _, _, sz, _, _, heo, C, hmo, M, I⟩
set_option maxRecDepth 100000 in
theorem s_culprits {l : Launch} {Ω : xW} {e w m : Nat} {h : xH} {sz : Nat} {v : Int32} (I : INV e w m h sz) (hw : w = e + 16) (hm : m = e + 37) : STEP l Ω e w m yX11_culprits cX11_culprits 2 6 yX12_culprits cX12_culprits 5 4 0 0 [.int v] h sz := by
  obtain ⟨st, la, pr, tk, fi, be, le, cu, tk2, sa, ti, fm, fl, a, tn, np, day, b, x, kd, wh, mn, lane, many, item, heo, hko, hto, hmo, R, TP, TN, AC, IM, TR, FR, hsz⟩ := id I
  obtain ⟨pf, fr, t4, htp, htf, ht4, T, hP, hE, hF⟩ := id TN
  have h6 : np ≤ 6 := T.1
  have hb : b < 2 ^ np := T.2.2.2.2.2.1
  have hday : day ≤ 9999 := T.2.2.2.1
  have h64 := pw_le h6
  obtain ⟨fw, ch, fz, pt, hfo, hwo, hfw, hch, hfz, hpt⟩ := id FR
  have C := c_X11_culprits (l := l) (Ω := Ω) (sz := sz) (v := v) heo hw hfo hto htf h6 hF hb
  have M := c_X12_culprits (l := l) (Ω := Ω) (sz := sz) (w := v) hmo ht4 T
  exact ⟨_, _, _, sz, _, _, heo, C, hmo, M, I⟩
set_option maxRecDepth 100000 in
theorem s_fullest {l : Launch} {Ω : xW} {e w m : Nat} {h : xH} {sz : Nat}  (I : INV e w m h sz) (hw : w = e + 16) (hm : m = e + 37) : STEP l Ω e w m yX11_fullest cX11_fullest 1 5 yX12_fullest cX12_fullest 3 4 0 0 [] h sz := by
  obtain ⟨st, la, pr, tk, fi, be, le, cu, tk2, sa, ti, fm, fl, a, tn, np, day, b, x, kd, wh, mn, lane, many, item, heo, hko, hto, hmo, R, TP, TN, AC, IM, TR, FR, hsz⟩ := id I
  obtain ⟨pf, fr, t4, htp, htf, ht4, T, hP, hE, hF⟩ := id TN
  have h6 : np ≤ 6 := T.1
  have hb : b < 2 ^ np := T.2.2.2.2.2.1
  have hday : day ≤ 9999 := T.2.2.2.1
  have h64 := pw_le h6
  obtain ⟨fw, ch, fz, pt, hfo, hwo, hfw, hch, hfz, hpt⟩ := id FR
  have C := c_X11_fullest (l := l) (Ω := Ω) (sz := sz) heo hw hfo hto htf h6 hF hb
  have M := c_X12_fullest (l := l) (Ω := Ω) (sz := sz) hmo ht4 T
  exact ⟨_, _, _, sz, _, _, heo, C, hmo, M, I⟩
set_option maxRecDepth 100000 in
theorem s_lost {l : Launch} {Ω : xW} {e w m : Nat} {h : xH} {sz : Nat} {s v : Int32} (I : INV e w m h sz) (hw : w = e + 16) (hm : m = e + 37) : STEP l Ω e w m yX11_lost cX11_lost 3 5 yX12_lost cX12_lost 6 3 0 0 [.int s, .int v] h sz := by
  obtain ⟨st, la, pr, tk, fi, be, le, cu, tk2, sa, ti, fm, fl, a, tn, np, day, b, x, kd, wh, mn, lane, many, item, heo, hko, hto, hmo, R, TP, TN, AC, IM, TR, FR, hsz⟩ := id I
  obtain ⟨pf, fr, t4, htp, htf, ht4, T, hP, hE, hF⟩ := id TN
  have h6 : np ≤ 6 := T.1
  have hb : b < 2 ^ np := T.2.2.2.2.2.1
  have hday : day ≤ 9999 := T.2.2.2.1
  have h64 := pw_le h6
  obtain ⟨fw, ch, fz, pt, hfo, hwo, hfw, hch, hfz, hpt⟩ := id FR
  have C := c_X11_lost (l := l) (Ω := Ω) (sz := sz) (s := s) (v := v) heo hw hfo hto htf h6 hF hb
  have M := c_X12_lost (l := l) (Ω := Ω) (sz := sz) (s := s) (w := v) hmo ht4 T
  exact ⟨_, _, _, sz, _, _, heo, C, hmo, M, I⟩
set_option maxRecDepth 100000 in
theorem s_readBy {l : Launch} {Ω : xW} {e w m : Nat} {h : xH} {sz : Nat} {s v : Int32} (I : INV e w m h sz) (hw : w = e + 16) (hm : m = e + 37) : STEP l Ω e w m yX11_readBy cX11_readBy 3 5 yX12_readBy cX12_readBy 7 3 0 0 [.int s, .int v] h sz := by
  obtain ⟨st, la, pr, tk, fi, be, le, cu, tk2, sa, ti, fm, fl, a, tn, np, day, b, x, kd, wh, mn, lane, many, item, heo, hko, hto, hmo, R, TP, TN, AC, IM, TR, FR, hsz⟩ := id I
  obtain ⟨pf, fr, t4, htp, htf, ht4, T, hP, hE, hF⟩ := id TN
  have h6 : np ≤ 6 := T.1
  have hb : b < 2 ^ np := T.2.2.2.2.2.1
  have hday : day ≤ 9999 := T.2.2.2.1
  have h64 := pw_le h6
  obtain ⟨fw, ch, fz, pt, hfo, hwo, hfw, hch, hfz, hpt⟩ := id FR
  have C := c_X11_readBy (l := l) (Ω := Ω) (sz := sz) (s := s) (v := v) heo hw hfo hto htf h6 hF hb
  have M := c_X12_readBy (l := l) (Ω := Ω) (sz := sz) (s := s) (w := v) hmo ht4 T
  exact ⟨_, _, _, sz, _, _, heo, C, hmo, M, I⟩
set_option maxRecDepth 100000 in
theorem s_likeliest {l : Launch} {Ω : xW} {e w m : Nat} {h : xH} {sz : Nat}  (I : INV e w m h sz) (hw : w = e + 16) (hm : m = e + 37) : STEP l Ω e w m yX11_likeliest cX11_likeliest 1 5 yX12_likeliest cX12_likeliest 3 4 0 0 [] h sz := by
  obtain ⟨st, la, pr, tk, fi, be, le, cu, tk2, sa, ti, fm, fl, a, tn, np, day, b, x, kd, wh, mn, lane, many, item, heo, hko, hto, hmo, R, TP, TN, AC, IM, TR, FR, hsz⟩ := id I
  obtain ⟨pf, fr, t4, htp, htf, ht4, T, hP, hE, hF⟩ := id TN
  have h6 : np ≤ 6 := T.1
  have hb : b < 2 ^ np := T.2.2.2.2.2.1
  have hday : day ≤ 9999 := T.2.2.2.1
  have h64 := pw_le h6
  obtain ⟨fw, ch, fz, pt, hfo, hwo, hfw, hch, hfz, hpt⟩ := id FR
  have C := c_X11_likeliest (l := l) (Ω := Ω) (sz := sz) heo hw hfo hto htp h6 hP hb
  have M := c_X12_likeliest (l := l) (Ω := Ω) (sz := sz) hmo ht4 T
  exact ⟨_, _, _, sz, _, _, heo, C, hmo, M, I⟩
set_option maxRecDepth 100000 in
theorem s_comes {l : Launch} {Ω : xW} {e w m : Nat} {h : xH} {sz : Nat} {l3 s v : Int32} (I : INV e w m h sz) (hw : w = e + 16) (hm : m = e + 37) : STEP l Ω e w m yX11_comes cX11_comes 7 4 yX12_comes cX12_comes 8 4 0 0 [.int l3, .int s, .int v] h sz := by
  obtain ⟨st, la, pr, tk, fi, be, le, cu, tk2, sa, ti, fm, fl, a, tn, np, day, b, x, kd, wh, mn, lane, many, item, heo, hko, hto, hmo, R, TP, TN, AC, IM, TR, FR, hsz⟩ := id I
  obtain ⟨pf, fr, t4, htp, htf, ht4, T, hP, hE, hF⟩ := id TN
  have h6 : np ≤ 6 := T.1
  have hb : b < 2 ^ np := T.2.2.2.2.2.1
  have hday : day ≤ 9999 := T.2.2.2.1
  have h64 := pw_le h6
  obtain ⟨fw, ch, fz, pt, hfo, hwo, hfw, hch, hfz, hpt⟩ := id FR
  have C := c_X11_comes (l := l) (Ω := Ω) (sz := sz) (l3 := l3) (s := s) (v := v) heo hw hfo hto htp h6 hP hb
  have M := c_X12_comes (l := l) (Ω := Ω) (sz := sz) (l3 := l3) (s := s) (w := v) hmo ht4 T
  exact ⟨_, _, _, sz, _, _, heo, C, hmo, M, I⟩
set_option maxRecDepth 100000 in
theorem s_fault {l : Launch} {Ω : xW} {e w m : Nat} {h : xH} {sz : Nat}  (I : INV e w m h sz) (hw : w = e + 16) (hm : m = e + 37) : STEP l Ω e w m yX11_fault cX11_fault 1 1 yX12_fault cX12_fault 1 0 0 0 [] h sz := by
  obtain ⟨st, la, pr, tk, fi, be, le, cu, tk2, sa, ti, fm, fl, a, tn, np, day, b, x, kd, wh, mn, lane, many, item, heo, hko, hto, hmo, R, TP, TN, AC, IM, TR, FR, hsz⟩ := id I
  have C := c_X11_fault (l := l) (Ω := Ω) (sz := sz) heo hko
  have M := c_X12_fault (l := l) (Ω := Ω) (sz := sz) hmo
  exact ⟨_, _, _, sz, _, _, heo, C, hmo, M, I⟩
set_option maxRecDepth 100000 in
theorem s_status {l : Launch} {Ω : xW} {e w m : Nat} {h : xH} {sz : Nat}  (I : INV e w m h sz) (hw : w = e + 16) (hm : m = e + 37) : STEP l Ω e w m yX11_status cX11_status 1 0 yX12_status cX12_status 1 0 0 0 [] h sz := by
  obtain ⟨st, la, pr, tk, fi, be, le, cu, tk2, sa, ti, fm, fl, a, tn, np, day, b, x, kd, wh, mn, lane, many, item, heo, hko, hto, hmo, R, TP, TN, AC, IM, TR, FR, hsz⟩ := id I
  have C := c_X11_status (l := l) (Ω := Ω) (sz := sz) heo
  have M := c_X12_status (l := l) (Ω := Ω) (sz := sz) hmo
  exact ⟨_, _, _, sz, _, _, heo, C, hmo, M, I⟩
set_option maxRecDepth 100000 in
theorem s_trace {l : Launch} {Ω : xW} {e w m : Nat} {h : xH} {sz : Nat} {i : Int32} (I : INV e w m h sz) (hw : w = e + 16) (hm : m = e + 37) : STEP l Ω e w m yX11_trace cX11_trace 2 1 yX12_trace cX12_trace 2 1 0 0 [.int i] h sz := by
  obtain ⟨st, la, pr, tk, fi, be, le, cu, tk2, sa, ti, fm, fl, a, tn, np, day, b, x, kd, wh, mn, lane, many, item, heo, hko, hto, hmo, R, TP, TN, AC, IM, TR, FR, hsz⟩ := id I
  obtain ⟨hq1, hq2, hq3, hx⟩ := id TR
  have C := c_X11_trace (l := l) (Ω := Ω) (sz := sz) (i := i) heo hq1 hq2 hx
  have M := c_X12_trace (l := l) (Ω := Ω) (sz := sz) (i := i) hmo hq3 hx
  exact ⟨_, _, _, sz, _, _, heo, C, hmo, M, I⟩
set_option maxRecDepth 100000 in
theorem s_count {l : Launch} {Ω : xW} {e w m : Nat} {h : xH} {sz : Nat} {v : Int32} (I : INV e w m h sz) (hw : w = e + 16) (hm : m = e + 37) : STEP l Ω e w m yX11_count cX11_count 2 3 yX12_count cX12_count 4 0 0 0 [.int v] h sz := by
  obtain ⟨st, la, pr, tk, fi, be, le, cu, tk2, sa, ti, fm, fl, a, tn, np, day, b, x, kd, wh, mn, lane, many, item, heo, hko, hto, hmo, R, TP, TN, AC, IM, TR, FR, hsz⟩ := id I
  obtain ⟨lanes, sizes, it, ho, hout, hin, hlanes, hsizes, hlane, hmany, hitem, RR⟩ := id R
  obtain ⟨hss, hM, hLn, hIt⟩ := id RR
  have hM4 : ∀ q, q < 8 → (many q).toInt ≤ 40 := fun q hq => (hM q hq).2
  have hM0 : ∀ q, q < 8 → 0 ≤ (many q).toInt := fun q hq => (hM q hq).1
  obtain ⟨pf, fr, t4, htp, htf, ht4, T, hP, hE, hF⟩ := id TN
  have h6 : np ≤ 6 := T.1
  have hb : b < 2 ^ np := T.2.2.2.2.2.1
  have hday : day ≤ 9999 := T.2.2.2.1
  have h64 := pw_le h6
  have C := c_X11_count (l := l) (Ω := Ω) (sz := sz) (v := v) heo hw ho hsizes hss hM hto hko
  have M := c_X12_count (l := l) (Ω := Ω) (sz := sz) (w := v) hmo ht4 T hlane
  exact ⟨_, _, _, sz, _, _, heo, C, hmo, M, I⟩
set_option maxRecDepth 100000 in
theorem s_kind {l : Launch} {Ω : xW} {e w m : Nat} {h : xH} {sz : Nat} {p : Int32} (I : INV e w m h sz) (hw : w = e + 16) (hm : m = e + 37) : STEP l Ω e w m yX11_kind cX11_kind 3 2 yX12_kind cX12_kind 2 2 0 0 [.int p] h sz := by
  obtain ⟨st, la, pr, tk, fi, be, le, cu, tk2, sa, ti, fm, fl, a, tn, np, day, b, x, kd, wh, mn, lane, many, item, heo, hko, hto, hmo, R, TP, TN, AC, IM, TR, FR, hsz⟩ := id I
  obtain ⟨pf, fr, t4, htp, htf, ht4, T, hP, hE, hF⟩ := id TN
  have h6 : np ≤ 6 := T.1
  have hb : b < 2 ^ np := T.2.2.2.2.2.1
  have hday : day ≤ 9999 := T.2.2.2.1
  have h64 := pw_le h6
  by_cases hp : 0 ≤ p.toInt ∧ p.toInt < np
  · have ep := (i32_tn hp.1).1
    have tp := (i32_tn hp.1).2
    have lk : p.toNatClampNeg < np := by omega
    have C := c_X11_kind (l := l) (Ω := Ω) (sz := sz) (p := p.toNatClampNeg) heo hw hto htp h6 hP hb lk
    have M := c_X12_kind (l := l) (Ω := Ω) (sz := sz) (p := p) hmo ht4 T
    rw [← ep] at C
    simp only [if_pos hp] at M
    exact ⟨_, _, _, sz, _, _, heo, C, hmo, M, I⟩
  · have C := c_X11_kindN (l := l) (Ω := Ω) (sz := sz) (x := p) heo hw hto htp h6 hp
    have M := c_X12_kind (l := l) (Ω := Ω) (sz := sz) (p := p) hmo ht4 T
    simp only [if_neg hp] at M
    exact ⟨_, _, _, sz, _, _, heo, C, hmo, M, I⟩
set_option maxRecDepth 100000 in
theorem s_person {l : Launch} {Ω : xW} {e w m : Nat} {h : xH} {sz : Nat} {p v : Int32} (I : INV e w m h sz) (hw : w = e + 16) (hm : m = e + 37) : STEP l Ω e w m yX11_person cX11_person 4 2 yX12_person cX12_person 3 2 0 0 [.int p, .int v] h sz := by
  obtain ⟨st, la, pr, tk, fi, be, le, cu, tk2, sa, ti, fm, fl, a, tn, np, day, b, x, kd, wh, mn, lane, many, item, heo, hko, hto, hmo, R, TP, TN, AC, IM, TR, FR, hsz⟩ := id I
  obtain ⟨pf, fr, t4, htp, htf, ht4, T, hP, hE, hF⟩ := id TN
  have h6 : np ≤ 6 := T.1
  have hb : b < 2 ^ np := T.2.2.2.2.2.1
  have hday : day ≤ 9999 := T.2.2.2.1
  have h64 := pw_le h6
  by_cases hp : 0 ≤ p.toInt ∧ p.toInt < np
  · have ep := (i32_tn hp.1).1
    have tp := (i32_tn hp.1).2
    have lk : p.toNatClampNeg < np := by omega
    have C := c_X11_person (l := l) (Ω := Ω) (sz := sz) (p := p.toNatClampNeg) (v := v) heo hw hto htp h6 hP hb lk
    have M := c_X12_person (l := l) (Ω := Ω) (sz := sz) (p := p) (w := v) hmo ht4 T
    rw [← ep] at C
    have er : a_person wh mn np b p v = if v.toInt = 0 then nI (wh p.toNatClampNeg) else if v.toInt = 1 then nI (mn p.toNatClampNeg) else if v.toInt = 2 then xb (b.testBit p.toNatClampNeg) else -1000001 := by
      unfold a_person
      repeat' split
      all_goals first | rfl | (exfalso; omega)
    rw [er] at M
    exact ⟨_, _, _, sz, _, _, heo, C, hmo, M, I⟩
  · have C := c_X11_personN (l := l) (Ω := Ω) (sz := sz) (x := p) (v := v) heo hw hto htp h6 hp
    have M := c_X12_person (l := l) (Ω := Ω) (sz := sz) (p := p) (w := v) hmo ht4 T
    rw [show a_person wh mn np b p v = -1000001 from if_neg (fun q => hp q.1)] at M
    exact ⟨_, _, _, sz, _, _, heo, C, hmo, M, I⟩
set_option maxRecDepth 100000 in
theorem s_as {l : Launch} {Ω : xW} {e w m : Nat} {h : xH} {sz : Nat} {p v : Int32} (I : INV e w m h sz) (hw : w = e + 16) (hm : m = e + 37) : STEP l Ω e w m yX11_as cX11_as 4 2 yX12_as cX12_as 3 2 0 0 [.int p, .int v] h sz := by
  obtain ⟨st, la, pr, tk, fi, be, le, cu, tk2, sa, ti, fm, fl, a, tn, np, day, b, x, kd, wh, mn, lane, many, item, heo, hko, hto, hmo, R, TP, TN, AC, IM, TR, FR, hsz⟩ := id I
  obtain ⟨pf, fr, t4, htp, htf, ht4, T, hP, hE, hF⟩ := id TN
  have h6 : np ≤ 6 := T.1
  have hb : b < 2 ^ np := T.2.2.2.2.2.1
  have hday : day ≤ 9999 := T.2.2.2.1
  have h64 := pw_le h6
  by_cases hp : 0 ≤ p.toInt ∧ p.toInt < np
  · have ep := (i32_tn hp.1).1
    have tp := (i32_tn hp.1).2
    have lk : p.toNatClampNeg < np := by omega
    let _i : Decidable (isOfP (nI (kd p.toNatClampNeg)).toInt v.toInt) := Classical.propDecidable _
    by_cases c1 : 0 ≤ v.toInt ∧ v.toInt ≤ 5
    · have c3 : (0 ≤ p.toInt ∧ p.toInt < np) ∧ 0 ≤ v.toInt ∧ v.toInt ≤ 5 := ⟨hp, c1⟩
      by_cases c2 : isOfP (nI (kd p.toNatClampNeg)).toInt v.toInt
      · have C := c_X11_as (l := l) (Ω := Ω) (sz := sz) (p := p.toNatClampNeg) (v := v) heo hw hto htp h6 hP hb lk
        have M := c_X12_as (l := l) (Ω := Ω) (sz := sz) (h := (xu h e (.inr (10, [.ref (e + 1), .ref (e + 13), .ref w, .ref (e + 19), .ref (e + 20), .ref (e + 28), .ref (e + 30), .int (nI a), .int (0)])))) (p := p) (k2 := v) (xu_at (by omega) hmo) (xu_at (by omega) ht4) T
        rw [← ep] at C
        simp only [if_pos c1, if_pos c2] at C
        simp only [if_pos c3, if_pos c2] at M
        exact ⟨_, _, _, sz, _, _, heo, C, (xu_at (by omega) hmo), M, 0, la, pr, tk, fi, be, le, cu, tk2, sa, ti, fm, fl, a, tn, np, day, b, x, kd, wh, mn, lane, many, item, (xu_at (by omega) (xu_s _ _ _)), (xu_at (by omega) (xu_at (xn1 _ rfl) hko)), (xu_at (by omega) (xu_at (by omega) hto)), (xu_s _ _ _), ((R.put (by omega)).put (by omega)), ((TP.put (by omega)).put (by omega)), ((TN.put (by omega)).put (by omega)), ((AC.put (by omega)).put (by omega)), ((IM.put (by omega)).put (by omega)), ((TR.put (by omega)).put (by omega)), ((FR.put (by omega)).put (by omega)), hsz⟩
      · have C := c_X11_as (l := l) (Ω := Ω) (sz := sz) (p := p.toNatClampNeg) (v := v) heo hw hto htp h6 hP hb lk
        have M := c_X12_as (l := l) (Ω := Ω) (sz := sz) (h := (xu h e (.inr (10, [.ref (e + 1), .ref (e + 13), .ref w, .ref (e + 19), .ref (e + 20), .ref (e + 28), .ref (e + 30), .int (nI a), .int (3)])))) (p := p) (k2 := v) (xu_at (by omega) hmo) (xu_at (by omega) ht4) T
        rw [← ep] at C
        simp only [if_pos c1, if_neg c2] at C
        simp only [if_pos c3, if_neg c2] at M
        exact ⟨_, _, _, sz, _, _, heo, C, (xu_at (by omega) hmo), M, 3, la, pr, tk, fi, be, le, cu, tk2, sa, ti, fm, fl, a, tn, np, day, b, x, kd, wh, mn, lane, many, item, (xu_at (by omega) (xu_s _ _ _)), (xu_at (by omega) (xu_at (xn1 _ rfl) hko)), (xu_at (by omega) (xu_at (by omega) hto)), (xu_s _ _ _), ((R.put (by omega)).put (by omega)), ((TP.put (by omega)).put (by omega)), ((TN.put (by omega)).put (by omega)), ((AC.put (by omega)).put (by omega)), ((IM.put (by omega)).put (by omega)), ((TR.put (by omega)).put (by omega)), ((FR.put (by omega)).put (by omega)), hsz⟩
    · have C := c_X11_as (l := l) (Ω := Ω) (sz := sz) (p := p.toNatClampNeg) (v := v) heo hw hto htp h6 hP hb lk
      have M := c_X12_as (l := l) (Ω := Ω) (sz := sz) (p := p) (k2 := v) hmo ht4 T
      rw [← ep] at C
      simp only [if_neg c1] at C
      simp only [if_neg (show ¬ ((0 ≤ p.toInt ∧ p.toInt < np) ∧ 0 ≤ v.toInt ∧ v.toInt ≤ 5) from fun q => c1 q.2)] at M
      exact ⟨_, _, _, sz, _, _, heo, C, hmo, M, I⟩
  · let _i : Decidable (isOfP (nI (kd p.toNatClampNeg)).toInt v.toInt) := Classical.propDecidable _
    have C := c_X11_asN (l := l) (Ω := Ω) (sz := sz) (x := p) (v := v) heo hw hto htp h6 hp
    have M := c_X12_as (l := l) (Ω := Ω) (sz := sz) (p := p) (k2 := v) hmo ht4 T
    simp only [if_neg (show ¬ ((0 ≤ p.toInt ∧ p.toInt < np) ∧ 0 ≤ v.toInt ∧ v.toInt ≤ 5) from fun q => hp q.1)] at M
    exact ⟨_, _, _, sz, _, _, heo, C, hmo, M, I⟩

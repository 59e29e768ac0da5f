set_option maxRecDepth 100000 in
theorem c_X10_ownKind {l : Launch} {Ω : xW} {h : xH} {sz : Nat} {a : Nat}  : xC l Ω yX10_ownKind cX10_ownKind 1 (some .int) 0 0 0 [.ref a] h sz (some (.int 1)) h (sz) := by
  refine xC_of (lv := [(0, .ref a)]) pn_X10 rfl rfl (fun Γ X hΓ hbs => ?_)
  have X : xX Γ Ω cX10_ownKind 1 RX10 "ownKind" (some .int) 0 0 0 0 := X
  subst hΓ
  refine xr_iconst (v := 1) X dX10_ownKind_0 (by decide) ?_
  exact xr_iret X rfl rfl rfl rfl rfl rfl dX10_ownKind_1
set_option maxRecDepth 100000 in
theorem c_X0_ownKind {l : Launch} {Ω : xW} {h : xH} {sz : Nat} {a : Nat}  : xC l Ω yX0_ownKind cX0_ownKind 1 (some .int) 0 0 0 [.ref a] h sz (some (.int 2)) h (sz) := by
  refine xC_of (lv := [(0, .ref a)]) pn_X0 rfl rfl (fun Γ X hΓ hbs => ?_)
  have X : xX Γ Ω cX0_ownKind 1 RX0 "ownKind" (some .int) 0 0 0 0 := X
  subst hΓ
  refine xr_iconst (v := 2) X dX0_ownKind_0 (by decide) ?_
  exact xr_iret X rfl rfl rfl rfl rfl rfl dX0_ownKind_1
set_option maxRecDepth 100000 in
theorem c_X3_ownKind {l : Launch} {Ω : xW} {h : xH} {sz : Nat} {a : Nat}  : xC l Ω yX3_ownKind cX3_ownKind 1 (some .int) 0 0 0 [.ref a] h sz (some (.int 3)) h (sz) := by
  refine xC_of (lv := [(0, .ref a)]) pn_X3 rfl rfl (fun Γ X hΓ hbs => ?_)
  have X : xX Γ Ω cX3_ownKind 1 RX3 "ownKind" (some .int) 0 0 0 0 := X
  subst hΓ
  refine xr_iconst (v := 3) X dX3_ownKind_0 (by decide) ?_
  exact xr_iret X rfl rfl rfl rfl rfl rfl dX3_ownKind_1
set_option maxRecDepth 100000 in
theorem c_X1_ownKind {l : Launch} {Ω : xW} {h : xH} {sz : Nat} {a : Nat}  : xC l Ω yX1_ownKind cX1_ownKind 1 (some .int) 0 0 0 [.ref a] h sz (some (.int 4)) h (sz) := by
  refine xC_of (lv := [(0, .ref a)]) pn_X1 rfl rfl (fun Γ X hΓ hbs => ?_)
  have X : xX Γ Ω cX1_ownKind 1 RX1 "ownKind" (some .int) 0 0 0 0 := X
  subst hΓ
  refine xr_iconst (v := 4) X dX1_ownKind_0 (by decide) ?_
  exact xr_iret X rfl rfl rfl rfl rfl rfl dX1_ownKind_1
set_option maxRecDepth 100000 in
theorem c_X4_ownKind {l : Launch} {Ω : xW} {h : xH} {sz : Nat} {a : Nat}  : xC l Ω yX4_ownKind cX4_ownKind 1 (some .int) 0 0 0 [.ref a] h sz (some (.int 5)) h (sz) := by
  refine xC_of (lv := [(0, .ref a)]) pn_X4 rfl rfl (fun Γ X hΓ hbs => ?_)
  have X : xX Γ Ω cX4_ownKind 1 RX4 "ownKind" (some .int) 0 0 0 0 := X
  subst hΓ
  refine xr_iconst (v := 5) X dX4_ownKind_0 (by decide) ?_
  exact xr_iret X rfl rfl rfl rfl rfl rfl dX4_ownKind_1
set_option maxRecDepth 100000 in
theorem c_X11_person {l : Launch} {Ω : xW} {h : xH} {sz : Nat} {e w B np day b p : Nat} {ac st : Int32} {kd wh mn : Nat → Nat} {pf : Nat → Option Nat} {v : Int32} (heo : h e = some (eO e w ac st)) (hw : w = e + 16) (hto : h w = some (tO w (nI np) (nI day) (nI b) (nI (moM kd np)))) (htp : h (w + 1) = some (.inl (.object "EvePost$Person", 6, .inr (.inr (.inr (.inr pf)))))) (h6 : np ≤ 6) (hP : PW B h pf np kd wh mn) (hb : b < 2 ^ np) (lk : p < np) : xC l Ω yX11_person cX11_person 4 (some .int) 2 0 0 [.ref e, .int (nI p), .int v] h sz (some (.int (if v.toInt = 0 then nI (wh p) else if v.toInt = 1 then nI (mn p) else if v.toInt = 2 then xb (b.testBit p) else -1000001))) h (sz) := by
  refine xC_of (lv := [(0, .ref e), (1, .int (nI p)), (2, .int v)]) pn_X11 rfl rfl (fun Γ X hΓ hbs => ?_)
  have X : xX Γ Ω cX11_person 4 RX11 "person" (some .int) 2 70 0 0 := X
  subst hΓ
  have h64 := pw_le h6
  obtain ⟨⟨ap, hap1, hapB, hap2⟩, kr1, kr2, kr3, kr4⟩ := hP p lk
  have hkind : kd p = 1 ∨ kd p = 2 ∨ kd p = 3 ∨ kd p = 4 ∨ kd p = 5 := by omega
  refine xr_aload_n X 0 dX11_person_0 rfl rfl ?_
  refine xr_get X fF_X11_26_10 heo rfl dX11_person_1 ?_
  refine xr_iload_n X 1 dX11_person_4 rfl rfl ?_
  refine xr_callV X hto rfl kw_647 kw_504 kw_505 cw_X8_one [.int (nI p)] (c_X8_one hto htp h6 (by omega) hap1) rfl rfl rfl rfl rfl rfl rfl dX11_person_5 ?_
  refine xr_astore_n (lv' := [(3, .ref ap), (0, .ref e), (1, .int (nI p)), (2, .int v)]) X dX11_person_8 rfl rfl rfl ?_
  refine xr_aload_n X 0 dX11_person_9 rfl rfl ?_
  refine xr_ifnonnull (tgt := 16) X dX11_person_10 (by decide) ?_
  rcases hkind with hkk | hkk | hkk | hkk | hkk
  · have hob : h ap = some (.inr (9, [.int (nI p), .int (nI (wh p)), .int (nI (mn p))])) := by rw [hap2, hkk]; rfl
    refine xr_iload_n X 3 dX11_person_16 rfl rfl ?_
    have hcase : v.toInt = 0 ∨ v.toInt = 1 ∨ v.toInt = 2 ∨ (v.toInt < 0 ∨ 2 < v.toInt) := by omega
    rcases hcase with ew | ew | ew | ew
    · refine xr_tableIn (off := 27) (tgt := 44) X dX11_person_17 (by omega) (by omega) (by rw [ew]; rfl) (by decide) ?_
      refine xr_aload_n X 0 dX11_person_44 rfl rfl ?_
      refine xr_get X fF_X11_163_9 hob rfl dX11_person_45 ?_
      exact xr_iret X rfl (xv (if_pos (by omega))) rfl rfl rfl rfl dX11_person_48
    · refine xr_tableIn (off := 32) (tgt := 49) X dX11_person_17 (by omega) (by omega) (by rw [ew]; rfl) (by decide) ?_
      refine xr_aload_n X 0 dX11_person_49 rfl rfl ?_
      refine xr_get X fF_X11_168_9 hob rfl dX11_person_50 ?_
      exact xr_iret X rfl (xv ((if_neg (by omega)).trans (if_pos (by omega)))) rfl rfl rfl rfl dX11_person_53
    · refine xr_tableIn (off := 37) (tgt := 54) X dX11_person_17 (by omega) (by omega) (by rw [ew]; rfl) (by decide) ?_
      refine xr_aload_n X 1 dX11_person_54 rfl rfl ?_
      refine xr_get X fF_X11_26_10 heo rfl dX11_person_55 ?_
      refine xr_callV X hto rfl kw_594 kw_595 kw_596 cw_X8_before [] (c_X8_before hto) rfl rfl rfl rfl rfl rfl rfl dX11_person_58 ?_
      refine xr_iload_n X 2 dX11_person_61 rfl rfl ?_
      refine xr_callS X kw_648 kw_523 cw_X11_holds [.int (nI b), .int (nI p)] (c_X11_holds (by omega) (by omega)) rfl rfl rfl rfl rfl rfl rfl dX11_person_62 ?_
      refine xr_if_eq (tgt := 72) X dX11_person_65 (by decide) (fun c_65 => ?_) (fun c_65 => ?_)
      · have c_65 := xb_0.mp c_65
        refine xr_iconst (v := 0) X dX11_person_72 (by decide) ?_
        exact xr_iret X rfl (xv (((if_neg (by omega)).trans (if_neg (by omega))).trans ((if_pos ew).trans (by rw [c_65]; rfl)))) rfl rfl rfl rfl dX11_person_73
      · have c_65 := xb_1.mp c_65
        refine xr_iconst (v := 1) X dX11_person_68 (by decide) ?_
        refine xr_goto (tgt := 73) X dX11_person_69 (by decide) ?_
        exact xr_iret X rfl (xv (((if_neg (by omega)).trans (if_neg (by omega))).trans ((if_pos ew).trans (by rw [c_65]; rfl)))) rfl rfl rfl rfl dX11_person_73
    · refine xr_tableOut (tgt := 74) X dX11_person_17 (by omega) (by decide) ?_
      refine xr_ldc (v := (-1000001)) X kw_226 dX11_person_74 ?_
      exact xr_iret X rfl (xv (((if_neg (by omega)).trans (if_neg (by omega))).trans (if_neg (by omega)))) rfl rfl rfl rfl dX11_person_76
  · have hob : h ap = some (.inr (0, [.int (nI p), .int (nI (wh p)), .int (nI (mn p))])) := by rw [hap2, hkk]; rfl
    refine xr_iload_n X 3 dX11_person_16 rfl rfl ?_
    have hcase : v.toInt = 0 ∨ v.toInt = 1 ∨ v.toInt = 2 ∨ (v.toInt < 0 ∨ 2 < v.toInt) := by omega
    rcases hcase with ew | ew | ew | ew
    · refine xr_tableIn (off := 27) (tgt := 44) X dX11_person_17 (by omega) (by omega) (by rw [ew]; rfl) (by decide) ?_
      refine xr_aload_n X 0 dX11_person_44 rfl rfl ?_
      refine xr_get X fF_X11_163_0 hob rfl dX11_person_45 ?_
      exact xr_iret X rfl (xv (if_pos (by omega))) rfl rfl rfl rfl dX11_person_48
    · refine xr_tableIn (off := 32) (tgt := 49) X dX11_person_17 (by omega) (by omega) (by rw [ew]; rfl) (by decide) ?_
      refine xr_aload_n X 0 dX11_person_49 rfl rfl ?_
      refine xr_get X fF_X11_168_0 hob rfl dX11_person_50 ?_
      exact xr_iret X rfl (xv ((if_neg (by omega)).trans (if_pos (by omega)))) rfl rfl rfl rfl dX11_person_53
    · refine xr_tableIn (off := 37) (tgt := 54) X dX11_person_17 (by omega) (by omega) (by rw [ew]; rfl) (by decide) ?_
      refine xr_aload_n X 1 dX11_person_54 rfl rfl ?_
      refine xr_get X fF_X11_26_10 heo rfl dX11_person_55 ?_
      refine xr_callV X hto rfl kw_594 kw_595 kw_596 cw_X8_before [] (c_X8_before hto) rfl rfl rfl rfl rfl rfl rfl dX11_person_58 ?_
      refine xr_iload_n X 2 dX11_person_61 rfl rfl ?_
      refine xr_callS X kw_648 kw_523 cw_X11_holds [.int (nI b), .int (nI p)] (c_X11_holds (by omega) (by omega)) rfl rfl rfl rfl rfl rfl rfl dX11_person_62 ?_
      refine xr_if_eq (tgt := 72) X dX11_person_65 (by decide) (fun c_65 => ?_) (fun c_65 => ?_)
      · have c_65 := xb_0.mp c_65
        refine xr_iconst (v := 0) X dX11_person_72 (by decide) ?_
        exact xr_iret X rfl (xv (((if_neg (by omega)).trans (if_neg (by omega))).trans ((if_pos ew).trans (by rw [c_65]; rfl)))) rfl rfl rfl rfl dX11_person_73
      · have c_65 := xb_1.mp c_65
        refine xr_iconst (v := 1) X dX11_person_68 (by decide) ?_
        refine xr_goto (tgt := 73) X dX11_person_69 (by decide) ?_
        exact xr_iret X rfl (xv (((if_neg (by omega)).trans (if_neg (by omega))).trans ((if_pos ew).trans (by rw [c_65]; rfl)))) rfl rfl rfl rfl dX11_person_73
    · refine xr_tableOut (tgt := 74) X dX11_person_17 (by omega) (by decide) ?_
      refine xr_ldc (v := (-1000001)) X kw_226 dX11_person_74 ?_
      exact xr_iret X rfl (xv (((if_neg (by omega)).trans (if_neg (by omega))).trans (if_neg (by omega)))) rfl rfl rfl rfl dX11_person_76
  · have hob : h ap = some (.inr (3, [.int (nI p), .int (nI (wh p)), .int (nI (mn p))])) := by rw [hap2, hkk]; rfl
    refine xr_iload_n X 3 dX11_person_16 rfl rfl ?_
    have hcase : v.toInt = 0 ∨ v.toInt = 1 ∨ v.toInt = 2 ∨ (v.toInt < 0 ∨ 2 < v.toInt) := by omega
    rcases hcase with ew | ew | ew | ew
    · refine xr_tableIn (off := 27) (tgt := 44) X dX11_person_17 (by omega) (by omega) (by rw [ew]; rfl) (by decide) ?_
      refine xr_aload_n X 0 dX11_person_44 rfl rfl ?_
      refine xr_get X fF_X11_163_3 hob rfl dX11_person_45 ?_
      exact xr_iret X rfl (xv (if_pos (by omega))) rfl rfl rfl rfl dX11_person_48
    · refine xr_tableIn (off := 32) (tgt := 49) X dX11_person_17 (by omega) (by omega) (by rw [ew]; rfl) (by decide) ?_
      refine xr_aload_n X 0 dX11_person_49 rfl rfl ?_
      refine xr_get X fF_X11_168_3 hob rfl dX11_person_50 ?_
      exact xr_iret X rfl (xv ((if_neg (by omega)).trans (if_pos (by omega)))) rfl rfl rfl rfl dX11_person_53
    · refine xr_tableIn (off := 37) (tgt := 54) X dX11_person_17 (by omega) (by omega) (by rw [ew]; rfl) (by decide) ?_
      refine xr_aload_n X 1 dX11_person_54 rfl rfl ?_
      refine xr_get X fF_X11_26_10 heo rfl dX11_person_55 ?_
      refine xr_callV X hto rfl kw_594 kw_595 kw_596 cw_X8_before [] (c_X8_before hto) rfl rfl rfl rfl rfl rfl rfl dX11_person_58 ?_
      refine xr_iload_n X 2 dX11_person_61 rfl rfl ?_
      refine xr_callS X kw_648 kw_523 cw_X11_holds [.int (nI b), .int (nI p)] (c_X11_holds (by omega) (by omega)) rfl rfl rfl rfl rfl rfl rfl dX11_person_62 ?_
      refine xr_if_eq (tgt := 72) X dX11_person_65 (by decide) (fun c_65 => ?_) (fun c_65 => ?_)
      · have c_65 := xb_0.mp c_65
        refine xr_iconst (v := 0) X dX11_person_72 (by decide) ?_
        exact xr_iret X rfl (xv (((if_neg (by omega)).trans (if_neg (by omega))).trans ((if_pos ew).trans (by rw [c_65]; rfl)))) rfl rfl rfl rfl dX11_person_73
      · have c_65 := xb_1.mp c_65
        refine xr_iconst (v := 1) X dX11_person_68 (by decide) ?_
        refine xr_goto (tgt := 73) X dX11_person_69 (by decide) ?_
        exact xr_iret X rfl (xv (((if_neg (by omega)).trans (if_neg (by omega))).trans ((if_pos ew).trans (by rw [c_65]; rfl)))) rfl rfl rfl rfl dX11_person_73
    · refine xr_tableOut (tgt := 74) X dX11_person_17 (by omega) (by decide) ?_
      refine xr_ldc (v := (-1000001)) X kw_226 dX11_person_74 ?_
      exact xr_iret X rfl (xv (((if_neg (by omega)).trans (if_neg (by omega))).trans (if_neg (by omega)))) rfl rfl rfl rfl dX11_person_76
  · have hob : h ap = some (.inr (1, [.int (nI p), .int (nI (wh p)), .int (nI (mn p))])) := by rw [hap2, hkk]; rfl
    refine xr_iload_n X 3 dX11_person_16 rfl rfl ?_
    have hcase : v.toInt = 0 ∨ v.toInt = 1 ∨ v.toInt = 2 ∨ (v.toInt < 0 ∨ 2 < v.toInt) := by omega
    rcases hcase with ew | ew | ew | ew
    · refine xr_tableIn (off := 27) (tgt := 44) X dX11_person_17 (by omega) (by omega) (by rw [ew]; rfl) (by decide) ?_
      refine xr_aload_n X 0 dX11_person_44 rfl rfl ?_
      refine xr_get X fF_X11_163_1 hob rfl dX11_person_45 ?_
      exact xr_iret X rfl (xv (if_pos (by omega))) rfl rfl rfl rfl dX11_person_48
    · refine xr_tableIn (off := 32) (tgt := 49) X dX11_person_17 (by omega) (by omega) (by rw [ew]; rfl) (by decide) ?_
      refine xr_aload_n X 0 dX11_person_49 rfl rfl ?_
      refine xr_get X fF_X11_168_1 hob rfl dX11_person_50 ?_
      exact xr_iret X rfl (xv ((if_neg (by omega)).trans (if_pos (by omega)))) rfl rfl rfl rfl dX11_person_53
    · refine xr_tableIn (off := 37) (tgt := 54) X dX11_person_17 (by omega) (by omega) (by rw [ew]; rfl) (by decide) ?_
      refine xr_aload_n X 1 dX11_person_54 rfl rfl ?_
      refine xr_get X fF_X11_26_10 heo rfl dX11_person_55 ?_
      refine xr_callV X hto rfl kw_594 kw_595 kw_596 cw_X8_before [] (c_X8_before hto) rfl rfl rfl rfl rfl rfl rfl dX11_person_58 ?_
      refine xr_iload_n X 2 dX11_person_61 rfl rfl ?_
      refine xr_callS X kw_648 kw_523 cw_X11_holds [.int (nI b), .int (nI p)] (c_X11_holds (by omega) (by omega)) rfl rfl rfl rfl rfl rfl rfl dX11_person_62 ?_
      refine xr_if_eq (tgt := 72) X dX11_person_65 (by decide) (fun c_65 => ?_) (fun c_65 => ?_)
      · have c_65 := xb_0.mp c_65
        refine xr_iconst (v := 0) X dX11_person_72 (by decide) ?_
        exact xr_iret X rfl (xv (((if_neg (by omega)).trans (if_neg (by omega))).trans ((if_pos ew).trans (by rw [c_65]; rfl)))) rfl rfl rfl rfl dX11_person_73
      · have c_65 := xb_1.mp c_65
        refine xr_iconst (v := 1) X dX11_person_68 (by decide) ?_
        refine xr_goto (tgt := 73) X dX11_person_69 (by decide) ?_
        exact xr_iret X rfl (xv (((if_neg (by omega)).trans (if_neg (by omega))).trans ((if_pos ew).trans (by rw [c_65]; rfl)))) rfl rfl rfl rfl dX11_person_73
    · refine xr_tableOut (tgt := 74) X dX11_person_17 (by omega) (by decide) ?_
      refine xr_ldc (v := (-1000001)) X kw_226 dX11_person_74 ?_
      exact xr_iret X rfl (xv (((if_neg (by omega)).trans (if_neg (by omega))).trans (if_neg (by omega)))) rfl rfl rfl rfl dX11_person_76
  · have hob : h ap = some (.inr (4, [.int (nI p), .int (nI (wh p)), .int (nI (mn p))])) := by rw [hap2, hkk]; rfl
    refine xr_iload_n X 3 dX11_person_16 rfl rfl ?_
    have hcase : v.toInt = 0 ∨ v.toInt = 1 ∨ v.toInt = 2 ∨ (v.toInt < 0 ∨ 2 < v.toInt) := by omega
    rcases hcase with ew | ew | ew | ew
    · refine xr_tableIn (off := 27) (tgt := 44) X dX11_person_17 (by omega) (by omega) (by rw [ew]; rfl) (by decide) ?_
      refine xr_aload_n X 0 dX11_person_44 rfl rfl ?_
      refine xr_get X fF_X11_163_4 hob rfl dX11_person_45 ?_
      exact xr_iret X rfl (xv (if_pos (by omega))) rfl rfl rfl rfl dX11_person_48
    · refine xr_tableIn (off := 32) (tgt := 49) X dX11_person_17 (by omega) (by omega) (by rw [ew]; rfl) (by decide) ?_
      refine xr_aload_n X 0 dX11_person_49 rfl rfl ?_
      refine xr_get X fF_X11_168_4 hob rfl dX11_person_50 ?_
      exact xr_iret X rfl (xv ((if_neg (by omega)).trans (if_pos (by omega)))) rfl rfl rfl rfl dX11_person_53
    · refine xr_tableIn (off := 37) (tgt := 54) X dX11_person_17 (by omega) (by omega) (by rw [ew]; rfl) (by decide) ?_
      refine xr_aload_n X 1 dX11_person_54 rfl rfl ?_
      refine xr_get X fF_X11_26_10 heo rfl dX11_person_55 ?_
      refine xr_callV X hto rfl kw_594 kw_595 kw_596 cw_X8_before [] (c_X8_before hto) rfl rfl rfl rfl rfl rfl rfl dX11_person_58 ?_
      refine xr_iload_n X 2 dX11_person_61 rfl rfl ?_
      refine xr_callS X kw_648 kw_523 cw_X11_holds [.int (nI b), .int (nI p)] (c_X11_holds (by omega) (by omega)) rfl rfl rfl rfl rfl rfl rfl dX11_person_62 ?_
      refine xr_if_eq (tgt := 72) X dX11_person_65 (by decide) (fun c_65 => ?_) (fun c_65 => ?_)
      · have c_65 := xb_0.mp c_65
        refine xr_iconst (v := 0) X dX11_person_72 (by decide) ?_
        exact xr_iret X rfl (xv (((if_neg (by omega)).trans (if_neg (by omega))).trans ((if_pos ew).trans (by rw [c_65]; rfl)))) rfl rfl rfl rfl dX11_person_73
      · have c_65 := xb_1.mp c_65
        refine xr_iconst (v := 1) X dX11_person_68 (by decide) ?_
        refine xr_goto (tgt := 73) X dX11_person_69 (by decide) ?_
        exact xr_iret X rfl (xv (((if_neg (by omega)).trans (if_neg (by omega))).trans ((if_pos ew).trans (by rw [c_65]; rfl)))) rfl rfl rfl rfl dX11_person_73
    · refine xr_tableOut (tgt := 74) X dX11_person_17 (by omega) (by decide) ?_
      refine xr_ldc (v := (-1000001)) X kw_226 dX11_person_74 ?_
      exact xr_iret X rfl (xv (((if_neg (by omega)).trans (if_neg (by omega))).trans (if_neg (by omega)))) rfl rfl rfl rfl dX11_person_76
set_option maxRecDepth 100000 in
theorem c_X11_personN {l : Launch} {Ω : xW} {h : xH} {sz : Nat} {e w np day b : Nat} {ac st : Int32} {kd : Nat → Nat} {pf : Nat → Option Nat} {x : Int32} {v : Int32} (heo : h e = some (eO e w ac st)) (hw : w = e + 16) (hto : h w = some (tO w (nI np) (nI day) (nI b) (nI (moM kd np)))) (htp : h (w + 1) = some (.inl (.object "EvePost$Person", 6, .inr (.inr (.inr (.inr pf)))))) (h6 : np ≤ 6) (hx : ¬ (0 ≤ x.toInt ∧ x.toInt < np)) : xC l Ω yX11_person cX11_person 4 (some .int) 2 0 0 [.ref e, .int x, .int v] h sz (some (.int (-1000001))) h (sz) := by
  refine xC_of (lv := [(0, .ref e), (1, .int x), (2, .int v)]) pn_X11 rfl rfl (fun Γ X hΓ hbs => ?_)
  have X : xX Γ Ω cX11_person 4 RX11 "person" (some .int) 2 70 0 0 := X
  subst hΓ
  refine xr_aload_n X 0 dX11_person_0 rfl rfl ?_
  refine xr_get X fF_X11_26_10 heo rfl dX11_person_1 ?_
  refine xr_iload_n X 1 dX11_person_4 rfl rfl ?_
  refine xr_callV X hto rfl kw_647 kw_504 kw_505 cw_X8_one [.int x] (c_X8_oneN hto htp h6 hx) rfl rfl rfl rfl rfl rfl rfl dX11_person_5 ?_
  refine xr_astore_nN (lv' := [(3, .null), (0, .ref e), (1, .int x), (2, .int v)]) X dX11_person_8 rfl rfl rfl ?_
  refine xr_aload_nN X 0 dX11_person_9 rfl rfl ?_
  refine xr_ifnonnullN X dX11_person_10 ?_
  refine xr_ldc (v := (-1000001)) X kw_226 dX11_person_13 ?_
  exact xr_iret X rfl rfl rfl rfl rfl rfl dX11_person_15
set_option maxRecDepth 100000 in
theorem c_X11_kind {l : Launch} {Ω : xW} {h : xH} {sz : Nat} {e w B np day b p : Nat} {ac st : Int32} {kd wh mn : Nat → Nat} {pf : Nat → Option Nat} (heo : h e = some (eO e w ac st)) (hw : w = e + 16) (hto : h w = some (tO w (nI np) (nI day) (nI b) (nI (moM kd np)))) (htp : h (w + 1) = some (.inl (.object "EvePost$Person", 6, .inr (.inr (.inr (.inr pf)))))) (h6 : np ≤ 6) (hP : PW B h pf np kd wh mn) (hb : b < 2 ^ np) (lk : p < np) : xC l Ω yX11_kind cX11_kind 3 (some .int) 2 0 0 [.ref e, .int (nI p)] h sz (some (.int (nI (kd p)))) h (sz) := by
  refine xC_of (lv := [(0, .ref e), (1, .int (nI p))]) pn_X11 rfl rfl (fun Γ X hΓ hbs => ?_)
  have X : xX Γ Ω cX11_kind 3 RX11 "kind" (some .int) 2 70 0 0 := X
  subst hΓ
  have h64 := pw_le h6
  obtain ⟨⟨ap, hap1, hapB, hap2⟩, kr1, kr2, kr3, kr4⟩ := hP p lk
  have hkind : kd p = 1 ∨ kd p = 2 ∨ kd p = 3 ∨ kd p = 4 ∨ kd p = 5 := by omega
  refine xr_aload_n X 0 dX11_kind_0 rfl rfl ?_
  refine xr_get X fF_X11_26_10 heo rfl dX11_kind_1 ?_
  refine xr_iload_n X 1 dX11_kind_4 rfl rfl ?_
  refine xr_callV X hto rfl kw_647 kw_504 kw_505 cw_X8_one [.int (nI p)] (c_X8_one hto htp h6 (by omega) hap1) rfl rfl rfl rfl rfl rfl rfl dX11_kind_5 ?_
  refine xr_astore_n (lv' := [(2, .ref ap), (0, .ref e), (1, .int (nI p))]) X dX11_kind_8 rfl rfl rfl ?_
  refine xr_aload_n X 0 dX11_kind_9 rfl rfl ?_
  refine xr_ifnonnull (tgt := 18) X dX11_kind_10 (by decide) ?_
  rcases hkind with hkk | hkk | hkk | hkk | hkk
  · have hob : h ap = some (.inr (9, [.int (nI p), .int (nI (wh p)), .int (nI (mn p))])) := by rw [hap2, hkk]; rfl
    refine xr_aload_n X 0 dX11_kind_18 rfl rfl ?_
    refine xr_callU (y := yX10_ownKind) (x := ⟨"EvePost$Person", "ownKind", "()I"⟩) (owner := "EvePost$Person") X hob rfl kw_825 kw_827 (Or.inl (by decide +kernel)) (by decide) rfl kw_841 kw_840 cw_X10_ownKind [] c_X10_ownKind rfl rfl rfl rfl rfl rfl rfl dX11_kind_19 ?_
    exact xr_iret X rfl (xv (by rw [hkk]; rfl)) rfl rfl rfl rfl dX11_kind_22
  · have hob : h ap = some (.inr (0, [.int (nI p), .int (nI (wh p)), .int (nI (mn p))])) := by rw [hap2, hkk]; rfl
    refine xr_aload_n X 0 dX11_kind_18 rfl rfl ?_
    refine xr_callU (y := yX0_ownKind) (x := ⟨"EvePost$Person", "ownKind", "()I"⟩) (owner := "EvePost$Person") X hob rfl kw_825 kw_827 (Or.inl (by decide +kernel)) (by decide) rfl kw_829 kw_828 cw_X0_ownKind [] c_X0_ownKind rfl rfl rfl rfl rfl rfl rfl dX11_kind_19 ?_
    exact xr_iret X rfl (xv (by rw [hkk]; rfl)) rfl rfl rfl rfl dX11_kind_22
  · have hob : h ap = some (.inr (3, [.int (nI p), .int (nI (wh p)), .int (nI (mn p))])) := by rw [hap2, hkk]; rfl
    refine xr_aload_n X 0 dX11_kind_18 rfl rfl ?_
    refine xr_callU (y := yX3_ownKind) (x := ⟨"EvePost$Person", "ownKind", "()I"⟩) (owner := "EvePost$Person") X hob rfl kw_825 kw_827 (Or.inl (by decide +kernel)) (by decide) rfl kw_835 kw_834 cw_X3_ownKind [] c_X3_ownKind rfl rfl rfl rfl rfl rfl rfl dX11_kind_19 ?_
    exact xr_iret X rfl (xv (by rw [hkk]; rfl)) rfl rfl rfl rfl dX11_kind_22
  · have hob : h ap = some (.inr (1, [.int (nI p), .int (nI (wh p)), .int (nI (mn p))])) := by rw [hap2, hkk]; rfl
    refine xr_aload_n X 0 dX11_kind_18 rfl rfl ?_
    refine xr_callU (y := yX1_ownKind) (x := ⟨"EvePost$Person", "ownKind", "()I"⟩) (owner := "EvePost$Person") X hob rfl kw_825 kw_827 (Or.inl (by decide +kernel)) (by decide) rfl kw_832 kw_831 cw_X1_ownKind [] c_X1_ownKind rfl rfl rfl rfl rfl rfl rfl dX11_kind_19 ?_
    exact xr_iret X rfl (xv (by rw [hkk]; rfl)) rfl rfl rfl rfl dX11_kind_22
  · have hob : h ap = some (.inr (4, [.int (nI p), .int (nI (wh p)), .int (nI (mn p))])) := by rw [hap2, hkk]; rfl
    refine xr_aload_n X 0 dX11_kind_18 rfl rfl ?_
    refine xr_callU (y := yX4_ownKind) (x := ⟨"EvePost$Person", "ownKind", "()I"⟩) (owner := "EvePost$Person") X hob rfl kw_825 kw_827 (Or.inl (by decide +kernel)) (by decide) rfl kw_838 kw_837 cw_X4_ownKind [] c_X4_ownKind rfl rfl rfl rfl rfl rfl rfl dX11_kind_19 ?_
    exact xr_iret X rfl (xv (by rw [hkk]; rfl)) rfl rfl rfl rfl dX11_kind_22
set_option maxRecDepth 100000 in
theorem c_X11_kindN {l : Launch} {Ω : xW} {h : xH} {sz : Nat} {e w np day b : Nat} {ac st : Int32} {kd : Nat → Nat} {pf : Nat → Option Nat} {x : Int32} (heo : h e = some (eO e w ac st)) (hw : w = e + 16) (hto : h w = some (tO w (nI np) (nI day) (nI b) (nI (moM kd np)))) (htp : h (w + 1) = some (.inl (.object "EvePost$Person", 6, .inr (.inr (.inr (.inr pf)))))) (h6 : np ≤ 6) (hx : ¬ (0 ≤ x.toInt ∧ x.toInt < np)) : xC l Ω yX11_kind cX11_kind 3 (some .int) 2 0 0 [.ref e, .int x] h sz (some (.int (-1000001))) h (sz) := by
  refine xC_of (lv := [(0, .ref e), (1, .int x)]) pn_X11 rfl rfl (fun Γ X hΓ hbs => ?_)
  have X : xX Γ Ω cX11_kind 3 RX11 "kind" (some .int) 2 70 0 0 := X
  subst hΓ
  refine xr_aload_n X 0 dX11_kind_0 rfl rfl ?_
  refine xr_get X fF_X11_26_10 heo rfl dX11_kind_1 ?_
  refine xr_iload_n X 1 dX11_kind_4 rfl rfl ?_
  refine xr_callV X hto rfl kw_647 kw_504 kw_505 cw_X8_one [.int x] (c_X8_oneN hto htp h6 hx) rfl rfl rfl rfl rfl rfl rfl dX11_kind_5 ?_
  refine xr_astore_nN (lv' := [(2, .null), (0, .ref e), (1, .int x)]) X dX11_kind_8 rfl rfl rfl ?_
  refine xr_aload_nN X 0 dX11_kind_9 rfl rfl ?_
  refine xr_ifnonnullN X dX11_kind_10 ?_
  refine xr_ldc (v := (-1000001)) X kw_226 dX11_kind_13 ?_
  refine xr_goto (tgt := 22) X dX11_kind_15 (by decide) ?_
  exact xr_iret X rfl rfl rfl rfl rfl rfl dX11_kind_22
set_option maxRecDepth 100000 in
theorem c_isOf_1 {l : Launch} {Ω : xW} {h : xH} {sz : Nat} {a p w k : Nat} {v : Int32} (ho : h a = some (.inr (9, [.int (nI p), .int (nI w), .int (nI k)]))) : xC l Ω yX11_isOf cX11_isOf 2 (some .boolean) 0 0 0 [.ref a, .int v] h sz (some (.int (xb (decide (v.toInt = 0 ∨ v.toInt = 1))))) h (sz) := by
  refine xC_of (lv := [(0, .ref a), (1, .int v)]) pn_X11 rfl rfl (fun Γ X hΓ hbs => ?_)
  have X : xX Γ Ω cX11_isOf 2 RX11 "isOf" (some .boolean) 0 0 0 0 := X
  subst hΓ
  refine xr_iload_n X 1 dX11_isOf_0 rfl rfl ?_
  have hcase : v.toInt = 0 ∨ v.toInt = 1 ∨ v.toInt = 2 ∨ v.toInt = 3 ∨ v.toInt = 4 ∨ v.toInt = 5 ∨ (v.toInt < 0 ∨ 5 < v.toInt) := by omega
  rcases hcase with ew | ew | ew | ew | ew | ew | ew
  · refine xr_tableIn (off := 39) (tgt := 40) X dX11_isOf_1 (by omega) (by omega) (by rw [ew]; rfl) (by decide) ?_
    refine xr_iconst (v := 1) X dX11_isOf_40 (by decide) ?_
    exact xr_zret X rfl rfl (by first | exact xbT (by omega) | exact xbF (by omega)) rfl rfl rfl rfl dX11_isOf_41
  · refine xr_tableIn (off := 41) (tgt := 42) X dX11_isOf_1 (by omega) (by omega) (by rw [ew]; rfl) (by decide) ?_
    refine xr_aload_n X 0 dX11_isOf_42 rfl rfl ?_
    refine xr_instY X ho rfl (C := "EvePost$TrueOne") rfl kw_850 (Or.inl rfl) dX11_isOf_43 ?_
    exact xr_zret X rfl rfl (by first | exact xbT (by omega) | exact xbF (by omega)) rfl rfl rfl rfl dX11_isOf_46
  · refine xr_tableIn (off := 46) (tgt := 47) X dX11_isOf_1 (by omega) (by omega) (by rw [ew]; rfl) (by decide) ?_
    refine xr_aload_n X 0 dX11_isOf_47 rfl rfl ?_
    refine xr_instN X ho rfl (C := "EvePost$TrueOne") rfl kw_851 (by decide +kernel) dX11_isOf_48 ?_
    exact xr_zret X rfl rfl (by first | exact xbT (by omega) | exact xbF (by omega)) rfl rfl rfl rfl dX11_isOf_51
  · refine xr_tableIn (off := 51) (tgt := 52) X dX11_isOf_1 (by omega) (by omega) (by rw [ew]; rfl) (by decide) ?_
    refine xr_aload_n X 0 dX11_isOf_52 rfl rfl ?_
    refine xr_instN X ho rfl (C := "EvePost$TrueOne") rfl kw_852 (by decide +kernel) dX11_isOf_53 ?_
    exact xr_zret X rfl rfl (by first | exact xbT (by omega) | exact xbF (by omega)) rfl rfl rfl rfl dX11_isOf_56
  · refine xr_tableIn (off := 56) (tgt := 57) X dX11_isOf_1 (by omega) (by omega) (by rw [ew]; rfl) (by decide) ?_
    refine xr_aload_n X 0 dX11_isOf_57 rfl rfl ?_
    refine xr_instN X ho rfl (C := "EvePost$TrueOne") rfl kw_853 (by decide +kernel) dX11_isOf_58 ?_
    exact xr_zret X rfl rfl (by first | exact xbT (by omega) | exact xbF (by omega)) rfl rfl rfl rfl dX11_isOf_61
  · refine xr_tableIn (off := 61) (tgt := 62) X dX11_isOf_1 (by omega) (by omega) (by rw [ew]; rfl) (by decide) ?_
    refine xr_aload_n X 0 dX11_isOf_62 rfl rfl ?_
    refine xr_instN X ho rfl (C := "EvePost$TrueOne") rfl kw_854 (by decide +kernel) dX11_isOf_63 ?_
    exact xr_zret X rfl rfl (by first | exact xbT (by omega) | exact xbF (by omega)) rfl rfl rfl rfl dX11_isOf_66
  · refine xr_tableOut (tgt := 67) X dX11_isOf_1 (by omega) (by decide) ?_
    refine xr_iconst (v := 0) X dX11_isOf_67 (by decide) ?_
    exact xr_zret X rfl rfl (by first | exact xbT (by omega) | exact xbF (by omega)) rfl rfl rfl rfl dX11_isOf_68
set_option maxRecDepth 100000 in
theorem c_isOf_2 {l : Launch} {Ω : xW} {h : xH} {sz : Nat} {a p w k : Nat} {v : Int32} (ho : h a = some (.inr (0, [.int (nI p), .int (nI w), .int (nI k)]))) : xC l Ω yX11_isOf cX11_isOf 2 (some .boolean) 0 0 0 [.ref a, .int v] h sz (some (.int (xb (decide (v.toInt = 0 ∨ v.toInt = 2 ∨ v.toInt = 1))))) h (sz) := by
  refine xC_of (lv := [(0, .ref a), (1, .int v)]) pn_X11 rfl rfl (fun Γ X hΓ hbs => ?_)
  have X : xX Γ Ω cX11_isOf 2 RX11 "isOf" (some .boolean) 0 0 0 0 := X
  subst hΓ
  refine xr_iload_n X 1 dX11_isOf_0 rfl rfl ?_
  have hcase : v.toInt = 0 ∨ v.toInt = 1 ∨ v.toInt = 2 ∨ v.toInt = 3 ∨ v.toInt = 4 ∨ v.toInt = 5 ∨ (v.toInt < 0 ∨ 5 < v.toInt) := by omega
  rcases hcase with ew | ew | ew | ew | ew | ew | ew
  · refine xr_tableIn (off := 39) (tgt := 40) X dX11_isOf_1 (by omega) (by omega) (by rw [ew]; rfl) (by decide) ?_
    refine xr_iconst (v := 1) X dX11_isOf_40 (by decide) ?_
    exact xr_zret X rfl rfl (by first | exact xbT (by omega) | exact xbF (by omega)) rfl rfl rfl rfl dX11_isOf_41
  · refine xr_tableIn (off := 41) (tgt := 42) X dX11_isOf_1 (by omega) (by omega) (by rw [ew]; rfl) (by decide) ?_
    refine xr_aload_n X 0 dX11_isOf_42 rfl rfl ?_
    refine xr_instY X ho rfl (C := "EvePost$CrossOne") rfl kw_850 (Or.inr (by decide +kernel)) dX11_isOf_43 ?_
    exact xr_zret X rfl rfl (by first | exact xbT (by omega) | exact xbF (by omega)) rfl rfl rfl rfl dX11_isOf_46
  · refine xr_tableIn (off := 46) (tgt := 47) X dX11_isOf_1 (by omega) (by omega) (by rw [ew]; rfl) (by decide) ?_
    refine xr_aload_n X 0 dX11_isOf_47 rfl rfl ?_
    refine xr_instY X ho rfl (C := "EvePost$CrossOne") rfl kw_851 (Or.inl rfl) dX11_isOf_48 ?_
    exact xr_zret X rfl rfl (by first | exact xbT (by omega) | exact xbF (by omega)) rfl rfl rfl rfl dX11_isOf_51
  · refine xr_tableIn (off := 51) (tgt := 52) X dX11_isOf_1 (by omega) (by omega) (by rw [ew]; rfl) (by decide) ?_
    refine xr_aload_n X 0 dX11_isOf_52 rfl rfl ?_
    refine xr_instN X ho rfl (C := "EvePost$CrossOne") rfl kw_852 (by decide +kernel) dX11_isOf_53 ?_
    exact xr_zret X rfl rfl (by first | exact xbT (by omega) | exact xbF (by omega)) rfl rfl rfl rfl dX11_isOf_56
  · refine xr_tableIn (off := 56) (tgt := 57) X dX11_isOf_1 (by omega) (by omega) (by rw [ew]; rfl) (by decide) ?_
    refine xr_aload_n X 0 dX11_isOf_57 rfl rfl ?_
    refine xr_instN X ho rfl (C := "EvePost$CrossOne") rfl kw_853 (by decide +kernel) dX11_isOf_58 ?_
    exact xr_zret X rfl rfl (by first | exact xbT (by omega) | exact xbF (by omega)) rfl rfl rfl rfl dX11_isOf_61
  · refine xr_tableIn (off := 61) (tgt := 62) X dX11_isOf_1 (by omega) (by omega) (by rw [ew]; rfl) (by decide) ?_
    refine xr_aload_n X 0 dX11_isOf_62 rfl rfl ?_
    refine xr_instN X ho rfl (C := "EvePost$CrossOne") rfl kw_854 (by decide +kernel) dX11_isOf_63 ?_
    exact xr_zret X rfl rfl (by first | exact xbT (by omega) | exact xbF (by omega)) rfl rfl rfl rfl dX11_isOf_66
  · refine xr_tableOut (tgt := 67) X dX11_isOf_1 (by omega) (by decide) ?_
    refine xr_iconst (v := 0) X dX11_isOf_67 (by decide) ?_
    exact xr_zret X rfl rfl (by first | exact xbT (by omega) | exact xbF (by omega)) rfl rfl rfl rfl dX11_isOf_68
set_option maxRecDepth 100000 in
theorem c_isOf_3 {l : Launch} {Ω : xW} {h : xH} {sz : Nat} {a p w k : Nat} {v : Int32} (ho : h a = some (.inr (3, [.int (nI p), .int (nI w), .int (nI k)]))) : xC l Ω yX11_isOf cX11_isOf 2 (some .boolean) 0 0 0 [.ref a, .int v] h sz (some (.int (xb (decide (v.toInt = 0 ∨ v.toInt = 3 ∨ v.toInt = 1))))) h (sz) := by
  refine xC_of (lv := [(0, .ref a), (1, .int v)]) pn_X11 rfl rfl (fun Γ X hΓ hbs => ?_)
  have X : xX Γ Ω cX11_isOf 2 RX11 "isOf" (some .boolean) 0 0 0 0 := X
  subst hΓ
  refine xr_iload_n X 1 dX11_isOf_0 rfl rfl ?_
  have hcase : v.toInt = 0 ∨ v.toInt = 1 ∨ v.toInt = 2 ∨ v.toInt = 3 ∨ v.toInt = 4 ∨ v.toInt = 5 ∨ (v.toInt < 0 ∨ 5 < v.toInt) := by omega
  rcases hcase with ew | ew | ew | ew | ew | ew | ew
  · refine xr_tableIn (off := 39) (tgt := 40) X dX11_isOf_1 (by omega) (by omega) (by rw [ew]; rfl) (by decide) ?_
    refine xr_iconst (v := 1) X dX11_isOf_40 (by decide) ?_
    exact xr_zret X rfl rfl (by first | exact xbT (by omega) | exact xbF (by omega)) rfl rfl rfl rfl dX11_isOf_41
  · refine xr_tableIn (off := 41) (tgt := 42) X dX11_isOf_1 (by omega) (by omega) (by rw [ew]; rfl) (by decide) ?_
    refine xr_aload_n X 0 dX11_isOf_42 rfl rfl ?_
    refine xr_instY X ho rfl (C := "EvePost$LotOne") rfl kw_850 (Or.inr (by decide +kernel)) dX11_isOf_43 ?_
    exact xr_zret X rfl rfl (by first | exact xbT (by omega) | exact xbF (by omega)) rfl rfl rfl rfl dX11_isOf_46
  · refine xr_tableIn (off := 46) (tgt := 47) X dX11_isOf_1 (by omega) (by omega) (by rw [ew]; rfl) (by decide) ?_
    refine xr_aload_n X 0 dX11_isOf_47 rfl rfl ?_
    refine xr_instN X ho rfl (C := "EvePost$LotOne") rfl kw_851 (by decide +kernel) dX11_isOf_48 ?_
    exact xr_zret X rfl rfl (by first | exact xbT (by omega) | exact xbF (by omega)) rfl rfl rfl rfl dX11_isOf_51
  · refine xr_tableIn (off := 51) (tgt := 52) X dX11_isOf_1 (by omega) (by omega) (by rw [ew]; rfl) (by decide) ?_
    refine xr_aload_n X 0 dX11_isOf_52 rfl rfl ?_
    refine xr_instY X ho rfl (C := "EvePost$LotOne") rfl kw_852 (Or.inl rfl) dX11_isOf_53 ?_
    exact xr_zret X rfl rfl (by first | exact xbT (by omega) | exact xbF (by omega)) rfl rfl rfl rfl dX11_isOf_56
  · refine xr_tableIn (off := 56) (tgt := 57) X dX11_isOf_1 (by omega) (by omega) (by rw [ew]; rfl) (by decide) ?_
    refine xr_aload_n X 0 dX11_isOf_57 rfl rfl ?_
    refine xr_instN X ho rfl (C := "EvePost$LotOne") rfl kw_853 (by decide +kernel) dX11_isOf_58 ?_
    exact xr_zret X rfl rfl (by first | exact xbT (by omega) | exact xbF (by omega)) rfl rfl rfl rfl dX11_isOf_61
  · refine xr_tableIn (off := 61) (tgt := 62) X dX11_isOf_1 (by omega) (by omega) (by rw [ew]; rfl) (by decide) ?_
    refine xr_aload_n X 0 dX11_isOf_62 rfl rfl ?_
    refine xr_instN X ho rfl (C := "EvePost$LotOne") rfl kw_854 (by decide +kernel) dX11_isOf_63 ?_
    exact xr_zret X rfl rfl (by first | exact xbT (by omega) | exact xbF (by omega)) rfl rfl rfl rfl dX11_isOf_66
  · refine xr_tableOut (tgt := 67) X dX11_isOf_1 (by omega) (by decide) ?_
    refine xr_iconst (v := 0) X dX11_isOf_67 (by decide) ?_
    exact xr_zret X rfl rfl (by first | exact xbT (by omega) | exact xbF (by omega)) rfl rfl rfl rfl dX11_isOf_68
set_option maxRecDepth 100000 in
theorem c_isOf_4 {l : Launch} {Ω : xW} {h : xH} {sz : Nat} {a p w k : Nat} {v : Int32} (ho : h a = some (.inr (1, [.int (nI p), .int (nI w), .int (nI k)]))) : xC l Ω yX11_isOf cX11_isOf 2 (some .boolean) 0 0 0 [.ref a, .int v] h sz (some (.int (xb (decide (v.toInt = 0 ∨ v.toInt = 4))))) h (sz) := by
  refine xC_of (lv := [(0, .ref a), (1, .int v)]) pn_X11 rfl rfl (fun Γ X hΓ hbs => ?_)
  have X : xX Γ Ω cX11_isOf 2 RX11 "isOf" (some .boolean) 0 0 0 0 := X
  subst hΓ
  refine xr_iload_n X 1 dX11_isOf_0 rfl rfl ?_
  have hcase : v.toInt = 0 ∨ v.toInt = 1 ∨ v.toInt = 2 ∨ v.toInt = 3 ∨ v.toInt = 4 ∨ v.toInt = 5 ∨ (v.toInt < 0 ∨ 5 < v.toInt) := by omega
  rcases hcase with ew | ew | ew | ew | ew | ew | ew
  · refine xr_tableIn (off := 39) (tgt := 40) X dX11_isOf_1 (by omega) (by omega) (by rw [ew]; rfl) (by decide) ?_
    refine xr_iconst (v := 1) X dX11_isOf_40 (by decide) ?_
    exact xr_zret X rfl rfl (by first | exact xbT (by omega) | exact xbF (by omega)) rfl rfl rfl rfl dX11_isOf_41
  · refine xr_tableIn (off := 41) (tgt := 42) X dX11_isOf_1 (by omega) (by omega) (by rw [ew]; rfl) (by decide) ?_
    refine xr_aload_n X 0 dX11_isOf_42 rfl rfl ?_
    refine xr_instN X ho rfl (C := "EvePost$CrowdOne") rfl kw_850 (by decide +kernel) dX11_isOf_43 ?_
    exact xr_zret X rfl rfl (by first | exact xbT (by omega) | exact xbF (by omega)) rfl rfl rfl rfl dX11_isOf_46
  · refine xr_tableIn (off := 46) (tgt := 47) X dX11_isOf_1 (by omega) (by omega) (by rw [ew]; rfl) (by decide) ?_
    refine xr_aload_n X 0 dX11_isOf_47 rfl rfl ?_
    refine xr_instN X ho rfl (C := "EvePost$CrowdOne") rfl kw_851 (by decide +kernel) dX11_isOf_48 ?_
    exact xr_zret X rfl rfl (by first | exact xbT (by omega) | exact xbF (by omega)) rfl rfl rfl rfl dX11_isOf_51
  · refine xr_tableIn (off := 51) (tgt := 52) X dX11_isOf_1 (by omega) (by omega) (by rw [ew]; rfl) (by decide) ?_
    refine xr_aload_n X 0 dX11_isOf_52 rfl rfl ?_
    refine xr_instN X ho rfl (C := "EvePost$CrowdOne") rfl kw_852 (by decide +kernel) dX11_isOf_53 ?_
    exact xr_zret X rfl rfl (by first | exact xbT (by omega) | exact xbF (by omega)) rfl rfl rfl rfl dX11_isOf_56
  · refine xr_tableIn (off := 56) (tgt := 57) X dX11_isOf_1 (by omega) (by omega) (by rw [ew]; rfl) (by decide) ?_
    refine xr_aload_n X 0 dX11_isOf_57 rfl rfl ?_
    refine xr_instY X ho rfl (C := "EvePost$CrowdOne") rfl kw_853 (Or.inl rfl) dX11_isOf_58 ?_
    exact xr_zret X rfl rfl (by first | exact xbT (by omega) | exact xbF (by omega)) rfl rfl rfl rfl dX11_isOf_61
  · refine xr_tableIn (off := 61) (tgt := 62) X dX11_isOf_1 (by omega) (by omega) (by rw [ew]; rfl) (by decide) ?_
    refine xr_aload_n X 0 dX11_isOf_62 rfl rfl ?_
    refine xr_instN X ho rfl (C := "EvePost$CrowdOne") rfl kw_854 (by decide +kernel) dX11_isOf_63 ?_
    exact xr_zret X rfl rfl (by first | exact xbT (by omega) | exact xbF (by omega)) rfl rfl rfl rfl dX11_isOf_66
  · refine xr_tableOut (tgt := 67) X dX11_isOf_1 (by omega) (by decide) ?_
    refine xr_iconst (v := 0) X dX11_isOf_67 (by decide) ?_
    exact xr_zret X rfl rfl (by first | exact xbT (by omega) | exact xbF (by omega)) rfl rfl rfl rfl dX11_isOf_68
set_option maxRecDepth 100000 in
theorem c_isOf_5 {l : Launch} {Ω : xW} {h : xH} {sz : Nat} {a p w k : Nat} {v : Int32} (ho : h a = some (.inr (4, [.int (nI p), .int (nI w), .int (nI k)]))) : xC l Ω yX11_isOf cX11_isOf 2 (some .boolean) 0 0 0 [.ref a, .int v] h sz (some (.int (xb (decide (v.toInt = 0 ∨ v.toInt = 5 ∨ v.toInt = 4))))) h (sz) := by
  refine xC_of (lv := [(0, .ref a), (1, .int v)]) pn_X11 rfl rfl (fun Γ X hΓ hbs => ?_)
  have X : xX Γ Ω cX11_isOf 2 RX11 "isOf" (some .boolean) 0 0 0 0 := X
  subst hΓ
  refine xr_iload_n X 1 dX11_isOf_0 rfl rfl ?_
  have hcase : v.toInt = 0 ∨ v.toInt = 1 ∨ v.toInt = 2 ∨ v.toInt = 3 ∨ v.toInt = 4 ∨ v.toInt = 5 ∨ (v.toInt < 0 ∨ 5 < v.toInt) := by omega
  rcases hcase with ew | ew | ew | ew | ew | ew | ew
  · refine xr_tableIn (off := 39) (tgt := 40) X dX11_isOf_1 (by omega) (by omega) (by rw [ew]; rfl) (by decide) ?_
    refine xr_iconst (v := 1) X dX11_isOf_40 (by decide) ?_
    exact xr_zret X rfl rfl (by first | exact xbT (by omega) | exact xbF (by omega)) rfl rfl rfl rfl dX11_isOf_41
  · refine xr_tableIn (off := 41) (tgt := 42) X dX11_isOf_1 (by omega) (by omega) (by rw [ew]; rfl) (by decide) ?_
    refine xr_aload_n X 0 dX11_isOf_42 rfl rfl ?_
    refine xr_instN X ho rfl (C := "EvePost$MoodyOne") rfl kw_850 (by decide +kernel) dX11_isOf_43 ?_
    exact xr_zret X rfl rfl (by first | exact xbT (by omega) | exact xbF (by omega)) rfl rfl rfl rfl dX11_isOf_46
  · refine xr_tableIn (off := 46) (tgt := 47) X dX11_isOf_1 (by omega) (by omega) (by rw [ew]; rfl) (by decide) ?_
    refine xr_aload_n X 0 dX11_isOf_47 rfl rfl ?_
    refine xr_instN X ho rfl (C := "EvePost$MoodyOne") rfl kw_851 (by decide +kernel) dX11_isOf_48 ?_
    exact xr_zret X rfl rfl (by first | exact xbT (by omega) | exact xbF (by omega)) rfl rfl rfl rfl dX11_isOf_51
  · refine xr_tableIn (off := 51) (tgt := 52) X dX11_isOf_1 (by omega) (by omega) (by rw [ew]; rfl) (by decide) ?_
    refine xr_aload_n X 0 dX11_isOf_52 rfl rfl ?_
    refine xr_instN X ho rfl (C := "EvePost$MoodyOne") rfl kw_852 (by decide +kernel) dX11_isOf_53 ?_
    exact xr_zret X rfl rfl (by first | exact xbT (by omega) | exact xbF (by omega)) rfl rfl rfl rfl dX11_isOf_56
  · refine xr_tableIn (off := 56) (tgt := 57) X dX11_isOf_1 (by omega) (by omega) (by rw [ew]; rfl) (by decide) ?_
    refine xr_aload_n X 0 dX11_isOf_57 rfl rfl ?_
    refine xr_instY X ho rfl (C := "EvePost$MoodyOne") rfl kw_853 (Or.inr (by decide +kernel)) dX11_isOf_58 ?_
    exact xr_zret X rfl rfl (by first | exact xbT (by omega) | exact xbF (by omega)) rfl rfl rfl rfl dX11_isOf_61
  · refine xr_tableIn (off := 61) (tgt := 62) X dX11_isOf_1 (by omega) (by omega) (by rw [ew]; rfl) (by decide) ?_
    refine xr_aload_n X 0 dX11_isOf_62 rfl rfl ?_
    refine xr_instY X ho rfl (C := "EvePost$MoodyOne") rfl kw_854 (Or.inl rfl) dX11_isOf_63 ?_
    exact xr_zret X rfl rfl (by first | exact xbT (by omega) | exact xbF (by omega)) rfl rfl rfl rfl dX11_isOf_66
  · refine xr_tableOut (tgt := 67) X dX11_isOf_1 (by omega) (by decide) ?_
    refine xr_iconst (v := 0) X dX11_isOf_67 (by decide) ?_
    exact xr_zret X rfl rfl (by first | exact xbT (by omega) | exact xbF (by omega)) rfl rfl rfl rfl dX11_isOf_68
set_option maxRecDepth 100000 in
theorem c_X11_as {l : Launch} {Ω : xW} {h : xH} {sz : Nat} {e w B np day b p : Nat} {ac st : Int32} {kd wh mn : Nat → Nat} {pf : Nat → Option Nat} {v : Int32} [Decidable (isOfP (nI (kd p)).toInt v.toInt)] (heo : h e = some (eO e w ac st)) (hw : w = e + 16) (hto : h w = some (tO w (nI np) (nI day) (nI b) (nI (moM kd np)))) (htp : h (w + 1) = some (.inl (.object "EvePost$Person", 6, .inr (.inr (.inr (.inr pf)))))) (h6 : np ≤ 6) (hP : PW B h pf np kd wh mn) (hb : b < 2 ^ np) (lk : p < np) : xC l Ω yX11_as cX11_as 4 (some .int) 2 0 0 [.ref e, .int (nI p), .int v] h sz (some (.int (if 0 ≤ v.toInt ∧ v.toInt ≤ 5 then (if isOfP (nI (kd p)).toInt v.toInt then nI p else -1000013) else -1000001))) (if 0 ≤ v.toInt ∧ v.toInt ≤ 5 then (if isOfP (nI (kd p)).toInt v.toInt then (xu h e (.inr (10, [.ref (e + 1), .ref (e + 13), .ref w, .ref (e + 19), .ref (e + 20), .ref (e + 28), .ref (e + 30), .int (ac), .int (0)]))) else (xu h e (.inr (10, [.ref (e + 1), .ref (e + 13), .ref w, .ref (e + 19), .ref (e + 20), .ref (e + 28), .ref (e + 30), .int (ac), .int (3)])))) else h) (sz) := by
  refine xC_of (lv := [(0, .ref e), (1, .int (nI p)), (2, .int v)]) pn_X11 rfl rfl (fun Γ X hΓ hbs => ?_)
  have X : xX Γ Ω cX11_as 4 RX11 "as" (some .int) 2 70 0 0 := X
  subst hΓ
  have h64 := pw_le h6
  obtain ⟨⟨ap, hap1, hapB, hap2⟩, kr1, kr2, kr3, kr4⟩ := hP p lk
  have hkind : kd p = 1 ∨ kd p = 2 ∨ kd p = 3 ∨ kd p = 4 ∨ kd p = 5 := by omega
  refine xr_aload_n X 0 dX11_as_0 rfl rfl ?_
  refine xr_get X fF_X11_26_10 heo rfl dX11_as_1 ?_
  refine xr_iload_n X 1 dX11_as_4 rfl rfl ?_
  refine xr_callV X hto rfl kw_647 kw_504 kw_505 cw_X8_one [.int (nI p)] (c_X8_one hto htp h6 (by omega) hap1) rfl rfl rfl rfl rfl rfl rfl dX11_as_5 ?_
  refine xr_astore_n (lv' := [(3, .ref ap), (0, .ref e), (1, .int (nI p)), (2, .int v)]) X dX11_as_8 rfl rfl rfl ?_
  refine xr_aload_n X 0 dX11_as_9 rfl rfl ?_
  refine xr_ifnull X dX11_as_10 ?_
  refine xr_iload_n X 3 dX11_as_13 rfl rfl ?_
  refine xr_if_lt (tgt := 22) X dX11_as_14 (by decide) (fun c_14 => ?_) (fun c_14 => ?_)
  · have c_14 := i32_lt.mp c_14
    (try simp (disch := omega) only [nI_toInt, i32_add, i32_sub, i32_mul, i64_addl, i32_l, k32_0, k64_0] at c_14)
    refine xr_ldc (v := (-1000001)) X kw_226 dX11_as_22 ?_
    exact xr_iret X rfl (xv (if_neg (by omega))) ((if_neg (by omega)).symm) rfl rfl rfl dX11_as_24
  · have c_14 := mt i32_lt.mpr c_14
    (try simp (disch := omega) only [nI_toInt, i32_add, i32_sub, i32_mul, i64_addl, i32_l, k32_0, k64_0] at c_14)
    refine xr_iload_n X 3 dX11_as_17 rfl rfl ?_
    refine xr_iconst (v := 5) X dX11_as_18 (by decide) ?_
    refine xr_icmp_le (tgt := 25) X dX11_as_19 (by decide) (fun c_19 => ?_) (fun c_19 => ?_)
    · have c_19 := i32_le.mp c_19
      (try simp (disch := omega) only [nI_toInt, i32_add, i32_sub, i32_mul, i64_addl, i32_l, k32_5, k64_5] at c_19)
      rcases hkind with hkk | hkk | hkk | hkk | hkk
      · have hob : h ap = some (.inr (9, [.int (nI p), .int (nI (wh p)), .int (nI (mn p))])) := by rw [hap2, hkk]; rfl
        refine xr_aload_n X 0 dX11_as_25 rfl rfl ?_
        refine xr_iload_n X 3 dX11_as_26 rfl rfl ?_
        refine xr_callS X kw_847 kw_848 cw_X11_isOf [.ref ap, .int v] (c_isOf_1 hob) rfl rfl rfl rfl rfl rfl rfl dX11_as_27 ?_
        refine xr_if_eq (tgt := 44) X dX11_as_30 (by decide) (fun c_30 => ?_) (fun c_30 => ?_)
        · have c_30 := of_decide_eq_false (xb_0.mp c_30)
          (try simp (disch := omega) only [nI_toInt, i32_add, i32_sub, i32_mul, i64_addl, i32_l, k32_0, k32_1, k64_0, k64_1] at c_30)
          refine xr_aload_n X 1 dX11_as_44 rfl rfl ?_
          refine xr_iconst (v := 3) X dX11_as_45 (by decide) ?_
          refine xr_callV X heo rfl kw_227 kw_229 kw_0 cw_X11_found [.int 3] (c_X11_found heo) rfl rfl rfl rfl rfl rfl rfl dX11_as_46 ?_
          exact xr_iret X rfl (xv ((if_pos (by omega)).trans (if_neg (by unfold isOfP; rw [nI_toInt (by omega)]; omega)))) (((if_pos (by omega)).trans (if_neg (by unfold isOfP; rw [nI_toInt (by omega)]; omega))).symm) rfl rfl rfl dX11_as_49
        · have c_30 := of_decide_eq_true (xb_1.mp c_30)
          (try simp (disch := omega) only [nI_toInt, i32_add, i32_sub, i32_mul, i64_addl, i32_l, k32_0, k32_1, k64_0, k64_1] at c_30)
          refine xr_aload_n X 1 dX11_as_33 rfl rfl ?_
          refine xr_aload_n X 0 dX11_as_34 rfl rfl ?_
          refine xr_get X fF_X11_244_9 hob rfl dX11_as_35 ?_
          refine xr_callV X heo rfl kw_241 kw_243 kw_1 cw_X11_fine [.int (nI p)] (c_X11_fine heo) rfl rfl rfl rfl rfl rfl rfl dX11_as_38 ?_
          refine xr_goto (tgt := 49) X dX11_as_41 (by decide) ?_
          exact xr_iret X rfl (xv ((if_pos (by omega)).trans (if_pos (by unfold isOfP; rw [nI_toInt (by omega)]; omega)))) (((if_pos (by omega)).trans (if_pos (by unfold isOfP; rw [nI_toInt (by omega)]; omega))).symm) rfl rfl rfl dX11_as_49
      · have hob : h ap = some (.inr (0, [.int (nI p), .int (nI (wh p)), .int (nI (mn p))])) := by rw [hap2, hkk]; rfl
        refine xr_aload_n X 0 dX11_as_25 rfl rfl ?_
        refine xr_iload_n X 3 dX11_as_26 rfl rfl ?_
        refine xr_callS X kw_847 kw_848 cw_X11_isOf [.ref ap, .int v] (c_isOf_2 hob) rfl rfl rfl rfl rfl rfl rfl dX11_as_27 ?_
        refine xr_if_eq (tgt := 44) X dX11_as_30 (by decide) (fun c_30 => ?_) (fun c_30 => ?_)
        · have c_30 := of_decide_eq_false (xb_0.mp c_30)
          (try simp (disch := omega) only [nI_toInt, i32_add, i32_sub, i32_mul, i64_addl, i32_l, k32_0, k32_1, k32_2, k64_0, k64_1, k64_2] at c_30)
          refine xr_aload_n X 1 dX11_as_44 rfl rfl ?_
          refine xr_iconst (v := 3) X dX11_as_45 (by decide) ?_
          refine xr_callV X heo rfl kw_227 kw_229 kw_0 cw_X11_found [.int 3] (c_X11_found heo) rfl rfl rfl rfl rfl rfl rfl dX11_as_46 ?_
          exact xr_iret X rfl (xv ((if_pos (by omega)).trans (if_neg (by unfold isOfP; rw [nI_toInt (by omega)]; omega)))) (((if_pos (by omega)).trans (if_neg (by unfold isOfP; rw [nI_toInt (by omega)]; omega))).symm) rfl rfl rfl dX11_as_49
        · have c_30 := of_decide_eq_true (xb_1.mp c_30)
          (try simp (disch := omega) only [nI_toInt, i32_add, i32_sub, i32_mul, i64_addl, i32_l, k32_0, k32_1, k32_2, k64_0, k64_1, k64_2] at c_30)
          refine xr_aload_n X 1 dX11_as_33 rfl rfl ?_
          refine xr_aload_n X 0 dX11_as_34 rfl rfl ?_
          refine xr_get X fF_X11_244_0 hob rfl dX11_as_35 ?_
          refine xr_callV X heo rfl kw_241 kw_243 kw_1 cw_X11_fine [.int (nI p)] (c_X11_fine heo) rfl rfl rfl rfl rfl rfl rfl dX11_as_38 ?_
          refine xr_goto (tgt := 49) X dX11_as_41 (by decide) ?_
          exact xr_iret X rfl (xv ((if_pos (by omega)).trans (if_pos (by unfold isOfP; rw [nI_toInt (by omega)]; omega)))) (((if_pos (by omega)).trans (if_pos (by unfold isOfP; rw [nI_toInt (by omega)]; omega))).symm) rfl rfl rfl dX11_as_49
      · have hob : h ap = some (.inr (3, [.int (nI p), .int (nI (wh p)), .int (nI (mn p))])) := by rw [hap2, hkk]; rfl
        refine xr_aload_n X 0 dX11_as_25 rfl rfl ?_
        refine xr_iload_n X 3 dX11_as_26 rfl rfl ?_
        refine xr_callS X kw_847 kw_848 cw_X11_isOf [.ref ap, .int v] (c_isOf_3 hob) rfl rfl rfl rfl rfl rfl rfl dX11_as_27 ?_
        refine xr_if_eq (tgt := 44) X dX11_as_30 (by decide) (fun c_30 => ?_) (fun c_30 => ?_)
        · have c_30 := of_decide_eq_false (xb_0.mp c_30)
          (try simp (disch := omega) only [nI_toInt, i32_add, i32_sub, i32_mul, i64_addl, i32_l, k32_0, k32_1, k32_3, k64_0, k64_1, k64_3] at c_30)
          refine xr_aload_n X 1 dX11_as_44 rfl rfl ?_
          refine xr_iconst (v := 3) X dX11_as_45 (by decide) ?_
          refine xr_callV X heo rfl kw_227 kw_229 kw_0 cw_X11_found [.int 3] (c_X11_found heo) rfl rfl rfl rfl rfl rfl rfl dX11_as_46 ?_
          exact xr_iret X rfl (xv ((if_pos (by omega)).trans (if_neg (by unfold isOfP; rw [nI_toInt (by omega)]; omega)))) (((if_pos (by omega)).trans (if_neg (by unfold isOfP; rw [nI_toInt (by omega)]; omega))).symm) rfl rfl rfl dX11_as_49
        · have c_30 := of_decide_eq_true (xb_1.mp c_30)
          (try simp (disch := omega) only [nI_toInt, i32_add, i32_sub, i32_mul, i64_addl, i32_l, k32_0, k32_1, k32_3, k64_0, k64_1, k64_3] at c_30)
          refine xr_aload_n X 1 dX11_as_33 rfl rfl ?_
          refine xr_aload_n X 0 dX11_as_34 rfl rfl ?_
          refine xr_get X fF_X11_244_3 hob rfl dX11_as_35 ?_
          refine xr_callV X heo rfl kw_241 kw_243 kw_1 cw_X11_fine [.int (nI p)] (c_X11_fine heo) rfl rfl rfl rfl rfl rfl rfl dX11_as_38 ?_
          refine xr_goto (tgt := 49) X dX11_as_41 (by decide) ?_
          exact xr_iret X rfl (xv ((if_pos (by omega)).trans (if_pos (by unfold isOfP; rw [nI_toInt (by omega)]; omega)))) (((if_pos (by omega)).trans (if_pos (by unfold isOfP; rw [nI_toInt (by omega)]; omega))).symm) rfl rfl rfl dX11_as_49
      · have hob : h ap = some (.inr (1, [.int (nI p), .int (nI (wh p)), .int (nI (mn p))])) := by rw [hap2, hkk]; rfl
        refine xr_aload_n X 0 dX11_as_25 rfl rfl ?_
        refine xr_iload_n X 3 dX11_as_26 rfl rfl ?_
        refine xr_callS X kw_847 kw_848 cw_X11_isOf [.ref ap, .int v] (c_isOf_4 hob) rfl rfl rfl rfl rfl rfl rfl dX11_as_27 ?_
        refine xr_if_eq (tgt := 44) X dX11_as_30 (by decide) (fun c_30 => ?_) (fun c_30 => ?_)
        · have c_30 := of_decide_eq_false (xb_0.mp c_30)
          (try simp (disch := omega) only [nI_toInt, i32_add, i32_sub, i32_mul, i64_addl, i32_l, k32_0, k32_4, k64_0] at c_30)
          refine xr_aload_n X 1 dX11_as_44 rfl rfl ?_
          refine xr_iconst (v := 3) X dX11_as_45 (by decide) ?_
          refine xr_callV X heo rfl kw_227 kw_229 kw_0 cw_X11_found [.int 3] (c_X11_found heo) rfl rfl rfl rfl rfl rfl rfl dX11_as_46 ?_
          exact xr_iret X rfl (xv ((if_pos (by omega)).trans (if_neg (by unfold isOfP; rw [nI_toInt (by omega)]; omega)))) (((if_pos (by omega)).trans (if_neg (by unfold isOfP; rw [nI_toInt (by omega)]; omega))).symm) rfl rfl rfl dX11_as_49
        · have c_30 := of_decide_eq_true (xb_1.mp c_30)
          (try simp (disch := omega) only [nI_toInt, i32_add, i32_sub, i32_mul, i64_addl, i32_l, k32_0, k32_4, k64_0] at c_30)
          refine xr_aload_n X 1 dX11_as_33 rfl rfl ?_
          refine xr_aload_n X 0 dX11_as_34 rfl rfl ?_
          refine xr_get X fF_X11_244_1 hob rfl dX11_as_35 ?_
          refine xr_callV X heo rfl kw_241 kw_243 kw_1 cw_X11_fine [.int (nI p)] (c_X11_fine heo) rfl rfl rfl rfl rfl rfl rfl dX11_as_38 ?_
          refine xr_goto (tgt := 49) X dX11_as_41 (by decide) ?_
          exact xr_iret X rfl (xv ((if_pos (by omega)).trans (if_pos (by unfold isOfP; rw [nI_toInt (by omega)]; omega)))) (((if_pos (by omega)).trans (if_pos (by unfold isOfP; rw [nI_toInt (by omega)]; omega))).symm) rfl rfl rfl dX11_as_49
      · have hob : h ap = some (.inr (4, [.int (nI p), .int (nI (wh p)), .int (nI (mn p))])) := by rw [hap2, hkk]; rfl
        refine xr_aload_n X 0 dX11_as_25 rfl rfl ?_
        refine xr_iload_n X 3 dX11_as_26 rfl rfl ?_
        refine xr_callS X kw_847 kw_848 cw_X11_isOf [.ref ap, .int v] (c_isOf_5 hob) rfl rfl rfl rfl rfl rfl rfl dX11_as_27 ?_
        refine xr_if_eq (tgt := 44) X dX11_as_30 (by decide) (fun c_30 => ?_) (fun c_30 => ?_)
        · have c_30 := of_decide_eq_false (xb_0.mp c_30)
          (try simp (disch := omega) only [nI_toInt, i32_add, i32_sub, i32_mul, i64_addl, i32_l, k32_0, k32_4, k32_5, k64_0, k64_5] at c_30)
          refine xr_aload_n X 1 dX11_as_44 rfl rfl ?_
          refine xr_iconst (v := 3) X dX11_as_45 (by decide) ?_
          refine xr_callV X heo rfl kw_227 kw_229 kw_0 cw_X11_found [.int 3] (c_X11_found heo) rfl rfl rfl rfl rfl rfl rfl dX11_as_46 ?_
          exact xr_iret X rfl (xv ((if_pos (by omega)).trans (if_neg (by unfold isOfP; rw [nI_toInt (by omega)]; omega)))) (((if_pos (by omega)).trans (if_neg (by unfold isOfP; rw [nI_toInt (by omega)]; omega))).symm) rfl rfl rfl dX11_as_49
        · have c_30 := of_decide_eq_true (xb_1.mp c_30)
          (try simp (disch := omega) only [nI_toInt, i32_add, i32_sub, i32_mul, i64_addl, i32_l, k32_0, k32_4, k32_5, k64_0, k64_5] at c_30)
          refine xr_aload_n X 1 dX11_as_33 rfl rfl ?_
          refine xr_aload_n X 0 dX11_as_34 rfl rfl ?_
          refine xr_get X fF_X11_244_4 hob rfl dX11_as_35 ?_
          refine xr_callV X heo rfl kw_241 kw_243 kw_1 cw_X11_fine [.int (nI p)] (c_X11_fine heo) rfl rfl rfl rfl rfl rfl rfl dX11_as_38 ?_
          refine xr_goto (tgt := 49) X dX11_as_41 (by decide) ?_
          exact xr_iret X rfl (xv ((if_pos (by omega)).trans (if_pos (by unfold isOfP; rw [nI_toInt (by omega)]; omega)))) (((if_pos (by omega)).trans (if_pos (by unfold isOfP; rw [nI_toInt (by omega)]; omega))).symm) rfl rfl rfl dX11_as_49
    · have c_19 := mt i32_le.mpr c_19
      (try simp (disch := omega) only [nI_toInt, i32_add, i32_sub, i32_mul, i64_addl, i32_l, k32_5, k64_5] at c_19)
      refine xr_ldc (v := (-1000001)) X kw_226 dX11_as_22 ?_
      exact xr_iret X rfl (xv (if_neg (by omega))) ((if_neg (by omega)).symm) rfl rfl rfl dX11_as_24
set_option maxRecDepth 100000 in
theorem c_X11_asN {l : Launch} {Ω : xW} {h : xH} {sz : Nat} {e w np day b : Nat} {ac st : Int32} {kd : Nat → Nat} {pf : Nat → Option Nat} {x : Int32} {v : Int32} (heo : h e = some (eO e w ac st)) (hw : w = e + 16) (hto : h w = some (tO w (nI np) (nI day) (nI b) (nI (moM kd np)))) (htp : h (w + 1) = some (.inl (.object "EvePost$Person", 6, .inr (.inr (.inr (.inr pf)))))) (h6 : np ≤ 6) (hx : ¬ (0 ≤ x.toInt ∧ x.toInt < np)) : xC l Ω yX11_as cX11_as 4 (some .int) 2 0 0 [.ref e, .int x, .int v] h sz (some (.int (-1000001))) h (sz) := by
  refine xC_of (lv := [(0, .ref e), (1, .int x), (2, .int v)]) pn_X11 rfl rfl (fun Γ X hΓ hbs => ?_)
  have X : xX Γ Ω cX11_as 4 RX11 "as" (some .int) 2 70 0 0 := X
  subst hΓ
  refine xr_aload_n X 0 dX11_as_0 rfl rfl ?_
  refine xr_get X fF_X11_26_10 heo rfl dX11_as_1 ?_
  refine xr_iload_n X 1 dX11_as_4 rfl rfl ?_
  refine xr_callV X hto rfl kw_647 kw_504 kw_505 cw_X8_one [.int x] (c_X8_oneN hto htp h6 hx) rfl rfl rfl rfl rfl rfl rfl dX11_as_5 ?_
  refine xr_astore_nN (lv' := [(3, .null), (0, .ref e), (1, .int x), (2, .int v)]) X dX11_as_8 rfl rfl rfl ?_
  refine xr_aload_nN X 0 dX11_as_9 rfl rfl ?_
  refine xr_ifnullN (tgt := 22) X dX11_as_10 (by decide) ?_
  refine xr_ldc (v := (-1000001)) X kw_226 dX11_as_22 ?_
  exact xr_iret X rfl rfl rfl rfl rfl rfl dX11_as_24
set_option maxRecDepth 100000 in
theorem c_X11_ask_1_0 {l : Launch} {Ω : xW} {h : xH} {sz : Nat} {e w B np day b p : Nat} {ac st : Int32} {kd wh mn : Nat → Nat} {pf : Nat → Option Nat} {x : trS} {v : Int32} (heo : h e = some (eO e w ac st)) (hw : w = e + 16) (hto : h w = some (tO w (nI np) (nI day) (nI b) (nI (moM kd np)))) (htp : h (w + 1) = some (.inl (.object "EvePost$Person", 6, .inr (.inr (.inr (.inr pf)))))) (h6 : np ≤ 6) (hP : PW B h pf np kd wh mn) (hb : b < 2 ^ np) (lk : p < np) (hq1 : h (e + 28) = some (.inr (8, [.ref (e + 29), .int (nI x.2)]))) (hq2 : h (e + 29) = some (.inl (.int, 16, .inl x.1))) (hB9 : e + 49 ≤ B) (hv : v.toInt = 0) (ek : kd p = 1) : xC l Ω yX11_ask cX11_ask 4 (some .int) 6 0 0 [.ref e, .int (nI p), .int v] h sz (some (.int (nI (mn p) + (nI p + nI (wh p))))) (xu (xu h (e + 28) (.inr (8, [.ref (e + 29), .int (nI (bg (bg (bg (bg (x.1, 0) 11) 10) 21) 20).2)]))) (e + 29) (.inl (.int, 16, .inl ((bg (bg (bg (bg (x.1, 0) 11) 10) 21) 20).1)))) (sz) := by
  refine xC_of (lv := [(0, .ref e), (1, .int (nI p)), (2, .int v)]) pn_X11 rfl rfl (fun Γ X hΓ hbs => ?_)
  have X : xX Γ Ω cX11_ask 4 RX11 "ask" (some .int) 6 210 0 0 := X
  subst hΓ
  obtain ⟨⟨ap, hap1, hapB, hap2⟩, kr1, kr2, kr3, kr4⟩ := hP p lk
  have hob : h ap = some (.inr (9, [.int (nI p), .int (nI (wh p)), .int (nI (mn p))])) := by rw [hap2, ek]; rfl
  refine xr_aload_n X 0 dX11_ask_0 rfl rfl ?_
  refine xr_get X fF_X11_26_10 heo rfl dX11_ask_1 ?_
  refine xr_iload_n X 1 dX11_ask_4 rfl rfl ?_
  refine xr_callV X hto rfl kw_647 kw_504 kw_505 cw_X8_one [.int (nI p)] (c_X8_one hto htp h6 (by omega) hap1) rfl rfl rfl rfl rfl rfl rfl dX11_ask_5 ?_
  refine xr_astore_n (lv' := [(3, .ref ap), (0, .ref e), (1, .int (nI p)), (2, .int v)]) X dX11_ask_8 rfl rfl rfl ?_
  refine xr_aload_n X 0 dX11_ask_9 rfl rfl ?_
  refine xr_ifnull X dX11_ask_10 ?_
  refine xr_iload_n X 3 dX11_ask_13 rfl rfl ?_
  refine xr_if_lt (tgt := 22) X dX11_ask_14 (by decide) (fun c_14 => absurd c_14 (by rw [i32_lt, hv, k32_0]; decide)) (fun _ => ?_)
  refine xr_iload_n X 3 dX11_ask_17 rfl rfl ?_
  refine xr_iconst (v := 1) X dX11_ask_18 (by decide) ?_
  refine xr_icmp_le (tgt := 25) X dX11_ask_19 (by decide) (fun _ => ?_) (fun c_19 => absurd (by rw [i32_le, hv, k32_1]; decide) c_19)
  refine xr_aload_n X 1 dX11_ask_25 rfl rfl ?_
  refine xr_get X fF_X11_44_10 heo rfl dX11_ask_26 ?_
  refine xr_callV X hq1 rfl kw_859 kw_860 kw_861 cw_X9_clear [] (c_X9_clear hq1) rfl rfl rfl rfl rfl rfl rfl dX11_ask_29 ?_
  refine xr_heap (h' := (xu (xu h (e + 28) (.inr (8, [.ref (e + 29), .int (nI ((x.1, 0)).2)]))) (e + 29) (.inl (.int, 16, .inl (((x.1, 0)).1))))) (xu_id (xu_at (xne _ rfl) hq2)).symm ?_
  refine xr_iload_n X 3 dX11_ask_32 rfl rfl ?_
  refine xr_if_ne (tgt := 47) X dX11_ask_33 (by decide) (fun c_33 => absurd (by rw [i32_eq, hv]; decide) c_33) (fun _ => ?_)
  refine xr_aload_n X 0 dX11_ask_36 rfl rfl ?_
  refine xr_aload_n X 1 dX11_ask_37 rfl rfl ?_
  refine xr_get X fF_X11_44_10 (xu_at (xn0 _ rfl) (xu_at (xn0 _ rfl) heo)) rfl dX11_ask_38 ?_
  refine xr_callU (y := yX10_size) (x := ⟨"EvePost$Person", "size", "(LEvePost$Trail;)I"⟩) (owner := "EvePost$Person") X (xu_at (by omega) (xu_at (by omega) hob)) rfl kw_863 kw_865 (Or.inr ⟨_, _, _, kw_864, kw_908⟩) (by decide) rfl kw_874 kw_907 cw_X10_size [.ref (e + 28)] (c_X10_size_1 (x := (x.1, 0)) (xu_at (by omega) (xu_at (by omega) hob)) (xu_at (xne _ rfl) (xu_s _ _ _)) (xu_s _ _ _) (Nat.zero_le _) (by omega)) rfl rfl rfl rfl rfl rfl rfl dX11_ask_41 ?_
  refine xr_heap (h' := (xu (xu h (e + 28) (.inr (8, [.ref (e + 29), .int (nI (bg (bg (bg (bg (x.1, 0) 11) 10) 21) 20).2)]))) (e + 29) (.inl (.int, 16, .inl ((bg (bg (bg (bg (x.1, 0) 11) 10) 21) 20).1))))) (xu_22 (xne _ rfl) _ _ _ _) ?_
  refine xr_goto (tgt := 55) X dX11_ask_44 (by decide) ?_
  exact xr_iret X rfl rfl rfl rfl rfl rfl dX11_ask_55
set_option maxRecDepth 100000 in
theorem c_X11_ask_1_1 {l : Launch} {Ω : xW} {h : xH} {sz : Nat} {e w B np day b p : Nat} {ac st : Int32} {kd wh mn : Nat → Nat} {pf : Nat → Option Nat} {x : trS} {v : Int32} (heo : h e = some (eO e w ac st)) (hw : w = e + 16) (hto : h w = some (tO w (nI np) (nI day) (nI b) (nI (moM kd np)))) (htp : h (w + 1) = some (.inl (.object "EvePost$Person", 6, .inr (.inr (.inr (.inr pf)))))) (h6 : np ≤ 6) (hP : PW B h pf np kd wh mn) (hb : b < 2 ^ np) (lk : p < np) (hq1 : h (e + 28) = some (.inr (8, [.ref (e + 29), .int (nI x.2)]))) (hq2 : h (e + 29) = some (.inl (.int, 16, .inl x.1))) (hB9 : e + 49 ≤ B) (hv : v.toInt = 1) (ek : kd p = 1) : xC l Ω yX11_ask cX11_ask 4 (some .int) 6 0 0 [.ref e, .int (nI p), .int v] h sz (some (.int (nI p + nI (wh p)))) (xu (xu h (e + 28) (.inr (8, [.ref (e + 29), .int (nI (bg (bg (x.1, 0) 21) 20).2)]))) (e + 29) (.inl (.int, 16, .inl ((bg (bg (x.1, 0) 21) 20).1)))) (sz) := by
  refine xC_of (lv := [(0, .ref e), (1, .int (nI p)), (2, .int v)]) pn_X11 rfl rfl (fun Γ X hΓ hbs => ?_)
  have X : xX Γ Ω cX11_ask 4 RX11 "ask" (some .int) 6 210 0 0 := X
  subst hΓ
  obtain ⟨⟨ap, hap1, hapB, hap2⟩, kr1, kr2, kr3, kr4⟩ := hP p lk
  have hob : h ap = some (.inr (9, [.int (nI p), .int (nI (wh p)), .int (nI (mn p))])) := by rw [hap2, ek]; rfl
  refine xr_aload_n X 0 dX11_ask_0 rfl rfl ?_
  refine xr_get X fF_X11_26_10 heo rfl dX11_ask_1 ?_
  refine xr_iload_n X 1 dX11_ask_4 rfl rfl ?_
  refine xr_callV X hto rfl kw_647 kw_504 kw_505 cw_X8_one [.int (nI p)] (c_X8_one hto htp h6 (by omega) hap1) rfl rfl rfl rfl rfl rfl rfl dX11_ask_5 ?_
  refine xr_astore_n (lv' := [(3, .ref ap), (0, .ref e), (1, .int (nI p)), (2, .int v)]) X dX11_ask_8 rfl rfl rfl ?_
  refine xr_aload_n X 0 dX11_ask_9 rfl rfl ?_
  refine xr_ifnull X dX11_ask_10 ?_
  refine xr_iload_n X 3 dX11_ask_13 rfl rfl ?_
  refine xr_if_lt (tgt := 22) X dX11_ask_14 (by decide) (fun c_14 => absurd c_14 (by rw [i32_lt, hv, k32_0]; decide)) (fun _ => ?_)
  refine xr_iload_n X 3 dX11_ask_17 rfl rfl ?_
  refine xr_iconst (v := 1) X dX11_ask_18 (by decide) ?_
  refine xr_icmp_le (tgt := 25) X dX11_ask_19 (by decide) (fun _ => ?_) (fun c_19 => absurd (by rw [i32_le, hv, k32_1]; decide) c_19)
  refine xr_aload_n X 1 dX11_ask_25 rfl rfl ?_
  refine xr_get X fF_X11_44_10 heo rfl dX11_ask_26 ?_
  refine xr_callV X hq1 rfl kw_859 kw_860 kw_861 cw_X9_clear [] (c_X9_clear hq1) rfl rfl rfl rfl rfl rfl rfl dX11_ask_29 ?_
  refine xr_heap (h' := (xu (xu h (e + 28) (.inr (8, [.ref (e + 29), .int (nI ((x.1, 0)).2)]))) (e + 29) (.inl (.int, 16, .inl (((x.1, 0)).1))))) (xu_id (xu_at (xne _ rfl) hq2)).symm ?_
  refine xr_iload_n X 3 dX11_ask_32 rfl rfl ?_
  refine xr_if_ne (tgt := 47) X dX11_ask_33 (by decide) (fun _ => ?_) (fun c_33 => absurd c_33 (by rw [i32_eq, hv]; decide))
  refine xr_aload_n X 0 dX11_ask_47 rfl rfl ?_
  refine xr_aload_n X 1 dX11_ask_48 rfl rfl ?_
  refine xr_get X fF_X11_44_10 (xu_at (xn0 _ rfl) (xu_at (xn0 _ rfl) heo)) rfl dX11_ask_49 ?_
  refine xr_callU (y := yX10_mark) (x := ⟨"EvePost$Person", "mark", "(LEvePost$Trail;)I"⟩) (owner := "EvePost$Person") X (xu_at (by omega) (xu_at (by omega) hob)) rfl kw_909 kw_1309 (Or.inr ⟨_, _, _, kw_893, kw_894⟩) (by decide) rfl kw_879 kw_1317 cw_X10_mark [.ref (e + 28)] (c_X10_mark_1 (x := (x.1, 0)) (xu_at (by omega) (xu_at (by omega) hob)) (xu_at (xne _ rfl) (xu_s _ _ _)) (xu_s _ _ _) (Nat.zero_le _) (by omega)) rfl rfl rfl rfl rfl rfl rfl dX11_ask_52 ?_
  refine xr_heap (h' := (xu (xu h (e + 28) (.inr (8, [.ref (e + 29), .int (nI (bg (bg (x.1, 0) 21) 20).2)]))) (e + 29) (.inl (.int, 16, .inl ((bg (bg (x.1, 0) 21) 20).1))))) (xu_22 (xne _ rfl) _ _ _ _) ?_
  exact xr_iret X rfl rfl rfl rfl rfl rfl dX11_ask_55
set_option maxRecDepth 100000 in
theorem c_X11_ask_2_0 {l : Launch} {Ω : xW} {h : xH} {sz : Nat} {e w B np day b p : Nat} {ac st : Int32} {kd wh mn : Nat → Nat} {pf : Nat → Option Nat} {x : trS} {v : Int32} (heo : h e = some (eO e w ac st)) (hw : w = e + 16) (hto : h w = some (tO w (nI np) (nI day) (nI b) (nI (moM kd np)))) (htp : h (w + 1) = some (.inl (.object "EvePost$Person", 6, .inr (.inr (.inr (.inr pf)))))) (h6 : np ≤ 6) (hP : PW B h pf np kd wh mn) (hb : b < 2 ^ np) (lk : p < np) (hq1 : h (e + 28) = some (.inr (8, [.ref (e + 29), .int (nI x.2)]))) (hq2 : h (e + 29) = some (.inl (.int, 16, .inl x.1))) (hB9 : e + 49 ≤ B) (hv : v.toInt = 0) (ek : kd p = 2) : xC l Ω yX11_ask cX11_ask 4 (some .int) 6 0 0 [.ref e, .int (nI p), .int v] h sz (some (.int (-(nI (mn p) + (2 * (nI p + nI (wh p))))))) (xu (xu h (e + 28) (.inr (8, [.ref (e + 29), .int (nI (bg (bg (bg (bg (bg (bg (x.1, 0) 12) 11) 10) 24) 21) 20).2)]))) (e + 29) (.inl (.int, 16, .inl ((bg (bg (bg (bg (bg (bg (x.1, 0) 12) 11) 10) 24) 21) 20).1)))) (sz) := by
  refine xC_of (lv := [(0, .ref e), (1, .int (nI p)), (2, .int v)]) pn_X11 rfl rfl (fun Γ X hΓ hbs => ?_)
  have X : xX Γ Ω cX11_ask 4 RX11 "ask" (some .int) 6 210 0 0 := X
  subst hΓ
  obtain ⟨⟨ap, hap1, hapB, hap2⟩, kr1, kr2, kr3, kr4⟩ := hP p lk
  have hob : h ap = some (.inr (0, [.int (nI p), .int (nI (wh p)), .int (nI (mn p))])) := by rw [hap2, ek]; rfl
  refine xr_aload_n X 0 dX11_ask_0 rfl rfl ?_
  refine xr_get X fF_X11_26_10 heo rfl dX11_ask_1 ?_
  refine xr_iload_n X 1 dX11_ask_4 rfl rfl ?_
  refine xr_callV X hto rfl kw_647 kw_504 kw_505 cw_X8_one [.int (nI p)] (c_X8_one hto htp h6 (by omega) hap1) rfl rfl rfl rfl rfl rfl rfl dX11_ask_5 ?_
  refine xr_astore_n (lv' := [(3, .ref ap), (0, .ref e), (1, .int (nI p)), (2, .int v)]) X dX11_ask_8 rfl rfl rfl ?_
  refine xr_aload_n X 0 dX11_ask_9 rfl rfl ?_
  refine xr_ifnull X dX11_ask_10 ?_
  refine xr_iload_n X 3 dX11_ask_13 rfl rfl ?_
  refine xr_if_lt (tgt := 22) X dX11_ask_14 (by decide) (fun c_14 => absurd c_14 (by rw [i32_lt, hv, k32_0]; decide)) (fun _ => ?_)
  refine xr_iload_n X 3 dX11_ask_17 rfl rfl ?_
  refine xr_iconst (v := 1) X dX11_ask_18 (by decide) ?_
  refine xr_icmp_le (tgt := 25) X dX11_ask_19 (by decide) (fun _ => ?_) (fun c_19 => absurd (by rw [i32_le, hv, k32_1]; decide) c_19)
  refine xr_aload_n X 1 dX11_ask_25 rfl rfl ?_
  refine xr_get X fF_X11_44_10 heo rfl dX11_ask_26 ?_
  refine xr_callV X hq1 rfl kw_859 kw_860 kw_861 cw_X9_clear [] (c_X9_clear hq1) rfl rfl rfl rfl rfl rfl rfl dX11_ask_29 ?_
  refine xr_heap (h' := (xu (xu h (e + 28) (.inr (8, [.ref (e + 29), .int (nI ((x.1, 0)).2)]))) (e + 29) (.inl (.int, 16, .inl (((x.1, 0)).1))))) (xu_id (xu_at (xne _ rfl) hq2)).symm ?_
  refine xr_iload_n X 3 dX11_ask_32 rfl rfl ?_
  refine xr_if_ne (tgt := 47) X dX11_ask_33 (by decide) (fun c_33 => absurd (by rw [i32_eq, hv]; decide) c_33) (fun _ => ?_)
  refine xr_aload_n X 0 dX11_ask_36 rfl rfl ?_
  refine xr_aload_n X 1 dX11_ask_37 rfl rfl ?_
  refine xr_get X fF_X11_44_10 (xu_at (xn0 _ rfl) (xu_at (xn0 _ rfl) heo)) rfl dX11_ask_38 ?_
  refine xr_callU (y := yX0_size) (x := ⟨"EvePost$Person", "size", "(LEvePost$Trail;)I"⟩) (owner := "EvePost$Person") X (xu_at (by omega) (xu_at (by omega) hob)) rfl kw_863 kw_865 (Or.inr ⟨_, _, _, kw_864, kw_908⟩) (by decide) rfl kw_867 kw_866 cw_X0_size [.ref (e + 28)] (c_X0_size_2 (x := (x.1, 0)) (xu_at (by omega) (xu_at (by omega) hob)) (xu_at (xne _ rfl) (xu_s _ _ _)) (xu_s _ _ _) (Nat.zero_le _) (by omega)) rfl rfl rfl rfl rfl rfl rfl dX11_ask_41 ?_
  refine xr_heap (h' := (xu (xu h (e + 28) (.inr (8, [.ref (e + 29), .int (nI (bg (bg (bg (bg (bg (bg (x.1, 0) 12) 11) 10) 24) 21) 20).2)]))) (e + 29) (.inl (.int, 16, .inl ((bg (bg (bg (bg (bg (bg (x.1, 0) 12) 11) 10) 24) 21) 20).1))))) (xu_22 (xne _ rfl) _ _ _ _) ?_
  refine xr_goto (tgt := 55) X dX11_ask_44 (by decide) ?_
  exact xr_iret X rfl rfl rfl rfl rfl rfl dX11_ask_55
set_option maxRecDepth 100000 in
theorem c_X11_ask_2_1 {l : Launch} {Ω : xW} {h : xH} {sz : Nat} {e w B np day b p : Nat} {ac st : Int32} {kd wh mn : Nat → Nat} {pf : Nat → Option Nat} {x : trS} {v : Int32} (heo : h e = some (eO e w ac st)) (hw : w = e + 16) (hto : h w = some (tO w (nI np) (nI day) (nI b) (nI (moM kd np)))) (htp : h (w + 1) = some (.inl (.object "EvePost$Person", 6, .inr (.inr (.inr (.inr pf)))))) (h6 : np ≤ 6) (hP : PW B h pf np kd wh mn) (hb : b < 2 ^ np) (lk : p < np) (hq1 : h (e + 28) = some (.inr (8, [.ref (e + 29), .int (nI x.2)]))) (hq2 : h (e + 29) = some (.inl (.int, 16, .inl x.1))) (hB9 : e + 49 ≤ B) (hv : v.toInt = 1) (ek : kd p = 2) : xC l Ω yX11_ask cX11_ask 4 (some .int) 6 0 0 [.ref e, .int (nI p), .int v] h sz (some (.int (2 * (nI p + nI (wh p))))) (xu (xu h (e + 28) (.inr (8, [.ref (e + 29), .int (nI (bg (bg (bg (x.1, 0) 24) 21) 20).2)]))) (e + 29) (.inl (.int, 16, .inl ((bg (bg (bg (x.1, 0) 24) 21) 20).1)))) (sz) := by
  refine xC_of (lv := [(0, .ref e), (1, .int (nI p)), (2, .int v)]) pn_X11 rfl rfl (fun Γ X hΓ hbs => ?_)
  have X : xX Γ Ω cX11_ask 4 RX11 "ask" (some .int) 6 210 0 0 := X
  subst hΓ
  obtain ⟨⟨ap, hap1, hapB, hap2⟩, kr1, kr2, kr3, kr4⟩ := hP p lk
  have hob : h ap = some (.inr (0, [.int (nI p), .int (nI (wh p)), .int (nI (mn p))])) := by rw [hap2, ek]; rfl
  refine xr_aload_n X 0 dX11_ask_0 rfl rfl ?_
  refine xr_get X fF_X11_26_10 heo rfl dX11_ask_1 ?_
  refine xr_iload_n X 1 dX11_ask_4 rfl rfl ?_
  refine xr_callV X hto rfl kw_647 kw_504 kw_505 cw_X8_one [.int (nI p)] (c_X8_one hto htp h6 (by omega) hap1) rfl rfl rfl rfl rfl rfl rfl dX11_ask_5 ?_
  refine xr_astore_n (lv' := [(3, .ref ap), (0, .ref e), (1, .int (nI p)), (2, .int v)]) X dX11_ask_8 rfl rfl rfl ?_
  refine xr_aload_n X 0 dX11_ask_9 rfl rfl ?_
  refine xr_ifnull X dX11_ask_10 ?_
  refine xr_iload_n X 3 dX11_ask_13 rfl rfl ?_
  refine xr_if_lt (tgt := 22) X dX11_ask_14 (by decide) (fun c_14 => absurd c_14 (by rw [i32_lt, hv, k32_0]; decide)) (fun _ => ?_)
  refine xr_iload_n X 3 dX11_ask_17 rfl rfl ?_
  refine xr_iconst (v := 1) X dX11_ask_18 (by decide) ?_
  refine xr_icmp_le (tgt := 25) X dX11_ask_19 (by decide) (fun _ => ?_) (fun c_19 => absurd (by rw [i32_le, hv, k32_1]; decide) c_19)
  refine xr_aload_n X 1 dX11_ask_25 rfl rfl ?_
  refine xr_get X fF_X11_44_10 heo rfl dX11_ask_26 ?_
  refine xr_callV X hq1 rfl kw_859 kw_860 kw_861 cw_X9_clear [] (c_X9_clear hq1) rfl rfl rfl rfl rfl rfl rfl dX11_ask_29 ?_
  refine xr_heap (h' := (xu (xu h (e + 28) (.inr (8, [.ref (e + 29), .int (nI ((x.1, 0)).2)]))) (e + 29) (.inl (.int, 16, .inl (((x.1, 0)).1))))) (xu_id (xu_at (xne _ rfl) hq2)).symm ?_
  refine xr_iload_n X 3 dX11_ask_32 rfl rfl ?_
  refine xr_if_ne (tgt := 47) X dX11_ask_33 (by decide) (fun _ => ?_) (fun c_33 => absurd c_33 (by rw [i32_eq, hv]; decide))
  refine xr_aload_n X 0 dX11_ask_47 rfl rfl ?_
  refine xr_aload_n X 1 dX11_ask_48 rfl rfl ?_
  refine xr_get X fF_X11_44_10 (xu_at (xn0 _ rfl) (xu_at (xn0 _ rfl) heo)) rfl dX11_ask_49 ?_
  refine xr_callU (y := yX0_mark) (x := ⟨"EvePost$Person", "mark", "(LEvePost$Trail;)I"⟩) (owner := "EvePost$Person") X (xu_at (by omega) (xu_at (by omega) hob)) rfl kw_909 kw_1309 (Or.inr ⟨_, _, _, kw_893, kw_894⟩) (by decide) rfl kw_883 kw_1311 cw_X0_mark [.ref (e + 28)] (c_X0_mark_2 (x := (x.1, 0)) (xu_at (by omega) (xu_at (by omega) hob)) (xu_at (xne _ rfl) (xu_s _ _ _)) (xu_s _ _ _) (Nat.zero_le _) (by omega)) rfl rfl rfl rfl rfl rfl rfl dX11_ask_52 ?_
  refine xr_heap (h' := (xu (xu h (e + 28) (.inr (8, [.ref (e + 29), .int (nI (bg (bg (bg (x.1, 0) 24) 21) 20).2)]))) (e + 29) (.inl (.int, 16, .inl ((bg (bg (bg (x.1, 0) 24) 21) 20).1))))) (xu_22 (xne _ rfl) _ _ _ _) ?_
  exact xr_iret X rfl rfl rfl rfl rfl rfl dX11_ask_55
set_option maxRecDepth 100000 in
theorem c_X11_ask_3_0 {l : Launch} {Ω : xW} {h : xH} {sz : Nat} {e w B np day b p : Nat} {ac st : Int32} {kd wh mn : Nat → Nat} {pf : Nat → Option Nat} {x : trS} {v : Int32} (heo : h e = some (eO e w ac st)) (hw : w = e + 16) (hto : h w = some (tO w (nI np) (nI day) (nI b) (nI (moM kd np)))) (htp : h (w + 1) = some (.inl (.object "EvePost$Person", 6, .inr (.inr (.inr (.inr pf)))))) (h6 : np ≤ 6) (hP : PW B h pf np kd wh mn) (hb : b < 2 ^ np) (lk : p < np) (hq1 : h (e + 28) = some (.inr (8, [.ref (e + 29), .int (nI x.2)]))) (hq2 : h (e + 29) = some (.inl (.int, 16, .inl x.1))) (hB9 : e + 49 ≤ B) (hv : v.toInt = 0) (ek : kd p = 3) : xC l Ω yX11_ask cX11_ask 4 (some .int) 6 0 0 [.ref e, .int (nI p), .int v] h sz (some (.int (nI (mn p) + ((nI p + nI (wh p)) - 1000)))) (xu (xu h (e + 28) (.inr (8, [.ref (e + 29), .int (nI (bg (bg (bg (bg (bg (x.1, 0) 11) 10) 22) 21) 20).2)]))) (e + 29) (.inl (.int, 16, .inl ((bg (bg (bg (bg (bg (x.1, 0) 11) 10) 22) 21) 20).1)))) (sz) := by
  refine xC_of (lv := [(0, .ref e), (1, .int (nI p)), (2, .int v)]) pn_X11 rfl rfl (fun Γ X hΓ hbs => ?_)
  have X : xX Γ Ω cX11_ask 4 RX11 "ask" (some .int) 6 210 0 0 := X
  subst hΓ
  obtain ⟨⟨ap, hap1, hapB, hap2⟩, kr1, kr2, kr3, kr4⟩ := hP p lk
  have hob : h ap = some (.inr (3, [.int (nI p), .int (nI (wh p)), .int (nI (mn p))])) := by rw [hap2, ek]; rfl
  refine xr_aload_n X 0 dX11_ask_0 rfl rfl ?_
  refine xr_get X fF_X11_26_10 heo rfl dX11_ask_1 ?_
  refine xr_iload_n X 1 dX11_ask_4 rfl rfl ?_
  refine xr_callV X hto rfl kw_647 kw_504 kw_505 cw_X8_one [.int (nI p)] (c_X8_one hto htp h6 (by omega) hap1) rfl rfl rfl rfl rfl rfl rfl dX11_ask_5 ?_
  refine xr_astore_n (lv' := [(3, .ref ap), (0, .ref e), (1, .int (nI p)), (2, .int v)]) X dX11_ask_8 rfl rfl rfl ?_
  refine xr_aload_n X 0 dX11_ask_9 rfl rfl ?_
  refine xr_ifnull X dX11_ask_10 ?_
  refine xr_iload_n X 3 dX11_ask_13 rfl rfl ?_
  refine xr_if_lt (tgt := 22) X dX11_ask_14 (by decide) (fun c_14 => absurd c_14 (by rw [i32_lt, hv, k32_0]; decide)) (fun _ => ?_)
  refine xr_iload_n X 3 dX11_ask_17 rfl rfl ?_
  refine xr_iconst (v := 1) X dX11_ask_18 (by decide) ?_
  refine xr_icmp_le (tgt := 25) X dX11_ask_19 (by decide) (fun _ => ?_) (fun c_19 => absurd (by rw [i32_le, hv, k32_1]; decide) c_19)
  refine xr_aload_n X 1 dX11_ask_25 rfl rfl ?_
  refine xr_get X fF_X11_44_10 heo rfl dX11_ask_26 ?_
  refine xr_callV X hq1 rfl kw_859 kw_860 kw_861 cw_X9_clear [] (c_X9_clear hq1) rfl rfl rfl rfl rfl rfl rfl dX11_ask_29 ?_
  refine xr_heap (h' := (xu (xu h (e + 28) (.inr (8, [.ref (e + 29), .int (nI ((x.1, 0)).2)]))) (e + 29) (.inl (.int, 16, .inl (((x.1, 0)).1))))) (xu_id (xu_at (xne _ rfl) hq2)).symm ?_
  refine xr_iload_n X 3 dX11_ask_32 rfl rfl ?_
  refine xr_if_ne (tgt := 47) X dX11_ask_33 (by decide) (fun c_33 => absurd (by rw [i32_eq, hv]; decide) c_33) (fun _ => ?_)
  refine xr_aload_n X 0 dX11_ask_36 rfl rfl ?_
  refine xr_aload_n X 1 dX11_ask_37 rfl rfl ?_
  refine xr_get X fF_X11_44_10 (xu_at (xn0 _ rfl) (xu_at (xn0 _ rfl) heo)) rfl dX11_ask_38 ?_
  refine xr_callU (y := yX10_size) (x := ⟨"EvePost$Person", "size", "(LEvePost$Trail;)I"⟩) (owner := "EvePost$Person") X (xu_at (by omega) (xu_at (by omega) hob)) rfl kw_863 kw_865 (Or.inr ⟨_, _, _, kw_864, kw_908⟩) (by decide) rfl kw_874 kw_901 cw_X10_size [.ref (e + 28)] (c_X10_size_3 (x := (x.1, 0)) (xu_at (by omega) (xu_at (by omega) hob)) (xu_at (xne _ rfl) (xu_s _ _ _)) (xu_s _ _ _) (Nat.zero_le _) (by omega)) rfl rfl rfl rfl rfl rfl rfl dX11_ask_41 ?_
  refine xr_heap (h' := (xu (xu h (e + 28) (.inr (8, [.ref (e + 29), .int (nI (bg (bg (bg (bg (bg (x.1, 0) 11) 10) 22) 21) 20).2)]))) (e + 29) (.inl (.int, 16, .inl ((bg (bg (bg (bg (bg (x.1, 0) 11) 10) 22) 21) 20).1))))) (xu_22 (xne _ rfl) _ _ _ _) ?_
  refine xr_goto (tgt := 55) X dX11_ask_44 (by decide) ?_
  exact xr_iret X rfl rfl rfl rfl rfl rfl dX11_ask_55
set_option maxRecDepth 100000 in
theorem c_X11_ask_3_1 {l : Launch} {Ω : xW} {h : xH} {sz : Nat} {e w B np day b p : Nat} {ac st : Int32} {kd wh mn : Nat → Nat} {pf : Nat → Option Nat} {x : trS} {v : Int32} (heo : h e = some (eO e w ac st)) (hw : w = e + 16) (hto : h w = some (tO w (nI np) (nI day) (nI b) (nI (moM kd np)))) (htp : h (w + 1) = some (.inl (.object "EvePost$Person", 6, .inr (.inr (.inr (.inr pf)))))) (h6 : np ≤ 6) (hP : PW B h pf np kd wh mn) (hb : b < 2 ^ np) (lk : p < np) (hq1 : h (e + 28) = some (.inr (8, [.ref (e + 29), .int (nI x.2)]))) (hq2 : h (e + 29) = some (.inl (.int, 16, .inl x.1))) (hB9 : e + 49 ≤ B) (hv : v.toInt = 1) (ek : kd p = 3) : xC l Ω yX11_ask cX11_ask 4 (some .int) 6 0 0 [.ref e, .int (nI p), .int v] h sz (some (.int ((nI p + nI (wh p)) - 1000))) (xu (xu h (e + 28) (.inr (8, [.ref (e + 29), .int (nI (bg (bg (bg (x.1, 0) 22) 21) 20).2)]))) (e + 29) (.inl (.int, 16, .inl ((bg (bg (bg (x.1, 0) 22) 21) 20).1)))) (sz) := by
  refine xC_of (lv := [(0, .ref e), (1, .int (nI p)), (2, .int v)]) pn_X11 rfl rfl (fun Γ X hΓ hbs => ?_)
  have X : xX Γ Ω cX11_ask 4 RX11 "ask" (some .int) 6 210 0 0 := X
  subst hΓ
  obtain ⟨⟨ap, hap1, hapB, hap2⟩, kr1, kr2, kr3, kr4⟩ := hP p lk
  have hob : h ap = some (.inr (3, [.int (nI p), .int (nI (wh p)), .int (nI (mn p))])) := by rw [hap2, ek]; rfl
  refine xr_aload_n X 0 dX11_ask_0 rfl rfl ?_
  refine xr_get X fF_X11_26_10 heo rfl dX11_ask_1 ?_
  refine xr_iload_n X 1 dX11_ask_4 rfl rfl ?_
  refine xr_callV X hto rfl kw_647 kw_504 kw_505 cw_X8_one [.int (nI p)] (c_X8_one hto htp h6 (by omega) hap1) rfl rfl rfl rfl rfl rfl rfl dX11_ask_5 ?_
  refine xr_astore_n (lv' := [(3, .ref ap), (0, .ref e), (1, .int (nI p)), (2, .int v)]) X dX11_ask_8 rfl rfl rfl ?_
  refine xr_aload_n X 0 dX11_ask_9 rfl rfl ?_
  refine xr_ifnull X dX11_ask_10 ?_
  refine xr_iload_n X 3 dX11_ask_13 rfl rfl ?_
  refine xr_if_lt (tgt := 22) X dX11_ask_14 (by decide) (fun c_14 => absurd c_14 (by rw [i32_lt, hv, k32_0]; decide)) (fun _ => ?_)
  refine xr_iload_n X 3 dX11_ask_17 rfl rfl ?_
  refine xr_iconst (v := 1) X dX11_ask_18 (by decide) ?_
  refine xr_icmp_le (tgt := 25) X dX11_ask_19 (by decide) (fun _ => ?_) (fun c_19 => absurd (by rw [i32_le, hv, k32_1]; decide) c_19)
  refine xr_aload_n X 1 dX11_ask_25 rfl rfl ?_
  refine xr_get X fF_X11_44_10 heo rfl dX11_ask_26 ?_
  refine xr_callV X hq1 rfl kw_859 kw_860 kw_861 cw_X9_clear [] (c_X9_clear hq1) rfl rfl rfl rfl rfl rfl rfl dX11_ask_29 ?_
  refine xr_heap (h' := (xu (xu h (e + 28) (.inr (8, [.ref (e + 29), .int (nI ((x.1, 0)).2)]))) (e + 29) (.inl (.int, 16, .inl (((x.1, 0)).1))))) (xu_id (xu_at (xne _ rfl) hq2)).symm ?_
  refine xr_iload_n X 3 dX11_ask_32 rfl rfl ?_
  refine xr_if_ne (tgt := 47) X dX11_ask_33 (by decide) (fun _ => ?_) (fun c_33 => absurd c_33 (by rw [i32_eq, hv]; decide))
  refine xr_aload_n X 0 dX11_ask_47 rfl rfl ?_
  refine xr_aload_n X 1 dX11_ask_48 rfl rfl ?_
  refine xr_get X fF_X11_44_10 (xu_at (xn0 _ rfl) (xu_at (xn0 _ rfl) heo)) rfl dX11_ask_49 ?_
  refine xr_callU (y := yX3_mark) (x := ⟨"EvePost$Person", "mark", "(LEvePost$Trail;)I"⟩) (owner := "EvePost$Person") X (xu_at (by omega) (xu_at (by omega) hob)) rfl kw_909 kw_1309 (Or.inr ⟨_, _, _, kw_893, kw_894⟩) (by decide) rfl kw_887 kw_1315 cw_X3_mark [.ref (e + 28)] (c_X3_mark_3 (x := (x.1, 0)) (xu_at (by omega) (xu_at (by omega) hob)) (xu_at (xne _ rfl) (xu_s _ _ _)) (xu_s _ _ _) (Nat.zero_le _) (by omega)) rfl rfl rfl rfl rfl rfl rfl dX11_ask_52 ?_
  refine xr_heap (h' := (xu (xu h (e + 28) (.inr (8, [.ref (e + 29), .int (nI (bg (bg (bg (x.1, 0) 22) 21) 20).2)]))) (e + 29) (.inl (.int, 16, .inl ((bg (bg (bg (x.1, 0) 22) 21) 20).1))))) (xu_22 (xne _ rfl) _ _ _ _) ?_
  exact xr_iret X rfl rfl rfl rfl rfl rfl dX11_ask_55
set_option maxRecDepth 100000 in
theorem c_X11_ask_4_0 {l : Launch} {Ω : xW} {h : xH} {sz : Nat} {e w B np day b p : Nat} {ac st : Int32} {kd wh mn : Nat → Nat} {pf : Nat → Option Nat} {x : trS} {v : Int32} (heo : h e = some (eO e w ac st)) (hw : w = e + 16) (hto : h w = some (tO w (nI np) (nI day) (nI b) (nI (moM kd np)))) (htp : h (w + 1) = some (.inl (.object "EvePost$Person", 6, .inr (.inr (.inr (.inr pf)))))) (h6 : np ≤ 6) (hP : PW B h pf np kd wh mn) (hb : b < 2 ^ np) (lk : p < np) (hq1 : h (e + 28) = some (.inr (8, [.ref (e + 29), .int (nI x.2)]))) (hq2 : h (e + 29) = some (.inl (.int, 16, .inl x.1))) (hB9 : e + 49 ≤ B) (hv : v.toInt = 0) (ek : kd p = 4) : xC l Ω yX11_ask cX11_ask 4 (some .int) 6 0 0 [.ref e, .int (nI p), .int v] h sz (some (.int (nI (mn p) - 100))) (xu (xu h (e + 28) (.inr (8, [.ref (e + 29), .int (nI (bg (bg (x.1, 0) 13) 10).2)]))) (e + 29) (.inl (.int, 16, .inl ((bg (bg (x.1, 0) 13) 10).1)))) (sz) := by
  refine xC_of (lv := [(0, .ref e), (1, .int (nI p)), (2, .int v)]) pn_X11 rfl rfl (fun Γ X hΓ hbs => ?_)
  have X : xX Γ Ω cX11_ask 4 RX11 "ask" (some .int) 6 210 0 0 := X
  subst hΓ
  obtain ⟨⟨ap, hap1, hapB, hap2⟩, kr1, kr2, kr3, kr4⟩ := hP p lk
  have hob : h ap = some (.inr (1, [.int (nI p), .int (nI (wh p)), .int (nI (mn p))])) := by rw [hap2, ek]; rfl
  refine xr_aload_n X 0 dX11_ask_0 rfl rfl ?_
  refine xr_get X fF_X11_26_10 heo rfl dX11_ask_1 ?_
  refine xr_iload_n X 1 dX11_ask_4 rfl rfl ?_
  refine xr_callV X hto rfl kw_647 kw_504 kw_505 cw_X8_one [.int (nI p)] (c_X8_one hto htp h6 (by omega) hap1) rfl rfl rfl rfl rfl rfl rfl dX11_ask_5 ?_
  refine xr_astore_n (lv' := [(3, .ref ap), (0, .ref e), (1, .int (nI p)), (2, .int v)]) X dX11_ask_8 rfl rfl rfl ?_
  refine xr_aload_n X 0 dX11_ask_9 rfl rfl ?_
  refine xr_ifnull X dX11_ask_10 ?_
  refine xr_iload_n X 3 dX11_ask_13 rfl rfl ?_
  refine xr_if_lt (tgt := 22) X dX11_ask_14 (by decide) (fun c_14 => absurd c_14 (by rw [i32_lt, hv, k32_0]; decide)) (fun _ => ?_)
  refine xr_iload_n X 3 dX11_ask_17 rfl rfl ?_
  refine xr_iconst (v := 1) X dX11_ask_18 (by decide) ?_
  refine xr_icmp_le (tgt := 25) X dX11_ask_19 (by decide) (fun _ => ?_) (fun c_19 => absurd (by rw [i32_le, hv, k32_1]; decide) c_19)
  refine xr_aload_n X 1 dX11_ask_25 rfl rfl ?_
  refine xr_get X fF_X11_44_10 heo rfl dX11_ask_26 ?_
  refine xr_callV X hq1 rfl kw_859 kw_860 kw_861 cw_X9_clear [] (c_X9_clear hq1) rfl rfl rfl rfl rfl rfl rfl dX11_ask_29 ?_
  refine xr_heap (h' := (xu (xu h (e + 28) (.inr (8, [.ref (e + 29), .int (nI ((x.1, 0)).2)]))) (e + 29) (.inl (.int, 16, .inl (((x.1, 0)).1))))) (xu_id (xu_at (xne _ rfl) hq2)).symm ?_
  refine xr_iload_n X 3 dX11_ask_32 rfl rfl ?_
  refine xr_if_ne (tgt := 47) X dX11_ask_33 (by decide) (fun c_33 => absurd (by rw [i32_eq, hv]; decide) c_33) (fun _ => ?_)
  refine xr_aload_n X 0 dX11_ask_36 rfl rfl ?_
  refine xr_aload_n X 1 dX11_ask_37 rfl rfl ?_
  refine xr_get X fF_X11_44_10 (xu_at (xn0 _ rfl) (xu_at (xn0 _ rfl) heo)) rfl dX11_ask_38 ?_
  refine xr_callU (y := yX1_size) (x := ⟨"EvePost$Person", "size", "(LEvePost$Trail;)I"⟩) (owner := "EvePost$Person") X (xu_at (by omega) (xu_at (by omega) hob)) rfl kw_863 kw_865 (Or.inr ⟨_, _, _, kw_864, kw_908⟩) (by decide) rfl kw_897 kw_896 cw_X1_size [.ref (e + 28)] (c_X1_size_4 (x := (x.1, 0)) (xu_at (by omega) (xu_at (by omega) hob)) (xu_at (xne _ rfl) (xu_s _ _ _)) (xu_s _ _ _) (Nat.zero_le _) (by omega)) rfl rfl rfl rfl rfl rfl rfl dX11_ask_41 ?_
  refine xr_heap (h' := (xu (xu h (e + 28) (.inr (8, [.ref (e + 29), .int (nI (bg (bg (x.1, 0) 13) 10).2)]))) (e + 29) (.inl (.int, 16, .inl ((bg (bg (x.1, 0) 13) 10).1))))) (xu_22 (xne _ rfl) _ _ _ _) ?_
  refine xr_goto (tgt := 55) X dX11_ask_44 (by decide) ?_
  exact xr_iret X rfl rfl rfl rfl rfl rfl dX11_ask_55
set_option maxRecDepth 100000 in
theorem c_X11_ask_4_1 {l : Launch} {Ω : xW} {h : xH} {sz : Nat} {e w B np day b p : Nat} {ac st : Int32} {kd wh mn : Nat → Nat} {pf : Nat → Option Nat} {x : trS} {v : Int32} (heo : h e = some (eO e w ac st)) (hw : w = e + 16) (hto : h w = some (tO w (nI np) (nI day) (nI b) (nI (moM kd np)))) (htp : h (w + 1) = some (.inl (.object "EvePost$Person", 6, .inr (.inr (.inr (.inr pf)))))) (h6 : np ≤ 6) (hP : PW B h pf np kd wh mn) (hb : b < 2 ^ np) (lk : p < np) (hq1 : h (e + 28) = some (.inr (8, [.ref (e + 29), .int (nI x.2)]))) (hq2 : h (e + 29) = some (.inl (.int, 16, .inl x.1))) (hB9 : e + 49 ≤ B) (hv : v.toInt = 1) (ek : kd p = 4) : xC l Ω yX11_ask cX11_ask 4 (some .int) 6 0 0 [.ref e, .int (nI p), .int v] h sz (some (.int (nI p - (nI (mn p) - 100)))) (xu (xu h (e + 28) (.inr (8, [.ref (e + 29), .int (nI (bg (bg (bg (bg (x.1, 0) 23) 20) 13) 10).2)]))) (e + 29) (.inl (.int, 16, .inl ((bg (bg (bg (bg (x.1, 0) 23) 20) 13) 10).1)))) (sz) := by
  refine xC_of (lv := [(0, .ref e), (1, .int (nI p)), (2, .int v)]) pn_X11 rfl rfl (fun Γ X hΓ hbs => ?_)
  have X : xX Γ Ω cX11_ask 4 RX11 "ask" (some .int) 6 210 0 0 := X
  subst hΓ
  obtain ⟨⟨ap, hap1, hapB, hap2⟩, kr1, kr2, kr3, kr4⟩ := hP p lk
  have hob : h ap = some (.inr (1, [.int (nI p), .int (nI (wh p)), .int (nI (mn p))])) := by rw [hap2, ek]; rfl
  refine xr_aload_n X 0 dX11_ask_0 rfl rfl ?_
  refine xr_get X fF_X11_26_10 heo rfl dX11_ask_1 ?_
  refine xr_iload_n X 1 dX11_ask_4 rfl rfl ?_
  refine xr_callV X hto rfl kw_647 kw_504 kw_505 cw_X8_one [.int (nI p)] (c_X8_one hto htp h6 (by omega) hap1) rfl rfl rfl rfl rfl rfl rfl dX11_ask_5 ?_
  refine xr_astore_n (lv' := [(3, .ref ap), (0, .ref e), (1, .int (nI p)), (2, .int v)]) X dX11_ask_8 rfl rfl rfl ?_
  refine xr_aload_n X 0 dX11_ask_9 rfl rfl ?_
  refine xr_ifnull X dX11_ask_10 ?_
  refine xr_iload_n X 3 dX11_ask_13 rfl rfl ?_
  refine xr_if_lt (tgt := 22) X dX11_ask_14 (by decide) (fun c_14 => absurd c_14 (by rw [i32_lt, hv, k32_0]; decide)) (fun _ => ?_)
  refine xr_iload_n X 3 dX11_ask_17 rfl rfl ?_
  refine xr_iconst (v := 1) X dX11_ask_18 (by decide) ?_
  refine xr_icmp_le (tgt := 25) X dX11_ask_19 (by decide) (fun _ => ?_) (fun c_19 => absurd (by rw [i32_le, hv, k32_1]; decide) c_19)
  refine xr_aload_n X 1 dX11_ask_25 rfl rfl ?_
  refine xr_get X fF_X11_44_10 heo rfl dX11_ask_26 ?_
  refine xr_callV X hq1 rfl kw_859 kw_860 kw_861 cw_X9_clear [] (c_X9_clear hq1) rfl rfl rfl rfl rfl rfl rfl dX11_ask_29 ?_
  refine xr_heap (h' := (xu (xu h (e + 28) (.inr (8, [.ref (e + 29), .int (nI ((x.1, 0)).2)]))) (e + 29) (.inl (.int, 16, .inl (((x.1, 0)).1))))) (xu_id (xu_at (xne _ rfl) hq2)).symm ?_
  refine xr_iload_n X 3 dX11_ask_32 rfl rfl ?_
  refine xr_if_ne (tgt := 47) X dX11_ask_33 (by decide) (fun _ => ?_) (fun c_33 => absurd c_33 (by rw [i32_eq, hv]; decide))
  refine xr_aload_n X 0 dX11_ask_47 rfl rfl ?_
  refine xr_aload_n X 1 dX11_ask_48 rfl rfl ?_
  refine xr_get X fF_X11_44_10 (xu_at (xn0 _ rfl) (xu_at (xn0 _ rfl) heo)) rfl dX11_ask_49 ?_
  refine xr_callU (y := yX1_mark) (x := ⟨"EvePost$Person", "mark", "(LEvePost$Trail;)I"⟩) (owner := "EvePost$Person") X (xu_at (by omega) (xu_at (by omega) hob)) rfl kw_909 kw_1309 (Or.inr ⟨_, _, _, kw_893, kw_894⟩) (by decide) rfl kw_910 kw_1312 cw_X1_mark [.ref (e + 28)] (c_X1_mark_4 (x := (x.1, 0)) (xu_at (by omega) (xu_at (by omega) hob)) (xu_at (xne _ rfl) (xu_s _ _ _)) (xu_s _ _ _) (Nat.zero_le _) (by omega)) rfl rfl rfl rfl rfl rfl rfl dX11_ask_52 ?_
  refine xr_heap (h' := (xu (xu h (e + 28) (.inr (8, [.ref (e + 29), .int (nI (bg (bg (bg (bg (x.1, 0) 23) 20) 13) 10).2)]))) (e + 29) (.inl (.int, 16, .inl ((bg (bg (bg (bg (x.1, 0) 23) 20) 13) 10).1))))) (xu_22 (xne _ rfl) _ _ _ _) ?_
  exact xr_iret X rfl rfl rfl rfl rfl rfl dX11_ask_55
set_option maxRecDepth 100000 in
theorem c_X11_ask_5_0 {l : Launch} {Ω : xW} {h : xH} {sz : Nat} {e w B np day b p : Nat} {ac st : Int32} {kd wh mn : Nat → Nat} {pf : Nat → Option Nat} {x : trS} {v : Int32} (heo : h e = some (eO e w ac st)) (hw : w = e + 16) (hto : h w = some (tO w (nI np) (nI day) (nI b) (nI (moM kd np)))) (htp : h (w + 1) = some (.inl (.object "EvePost$Person", 6, .inr (.inr (.inr (.inr pf)))))) (h6 : np ≤ 6) (hP : PW B h pf np kd wh mn) (hb : b < 2 ^ np) (lk : p < np) (hq1 : h (e + 28) = some (.inr (8, [.ref (e + 29), .int (nI x.2)]))) (hq2 : h (e + 29) = some (.inl (.int, 16, .inl x.1))) (hB9 : e + 49 ≤ B) (hv : v.toInt = 0) (ek : kd p = 5) : xC l Ω yX11_ask cX11_ask 4 (some .int) 6 0 0 [.ref e, .int (nI p), .int v] h sz (some (.int (2 * (nI (mn p) - 100)))) (xu (xu h (e + 28) (.inr (8, [.ref (e + 29), .int (nI (bg (bg (bg (x.1, 0) 14) 13) 10).2)]))) (e + 29) (.inl (.int, 16, .inl ((bg (bg (bg (x.1, 0) 14) 13) 10).1)))) (sz) := by
  refine xC_of (lv := [(0, .ref e), (1, .int (nI p)), (2, .int v)]) pn_X11 rfl rfl (fun Γ X hΓ hbs => ?_)
  have X : xX Γ Ω cX11_ask 4 RX11 "ask" (some .int) 6 210 0 0 := X
  subst hΓ
  obtain ⟨⟨ap, hap1, hapB, hap2⟩, kr1, kr2, kr3, kr4⟩ := hP p lk
  have hob : h ap = some (.inr (4, [.int (nI p), .int (nI (wh p)), .int (nI (mn p))])) := by rw [hap2, ek]; rfl
  refine xr_aload_n X 0 dX11_ask_0 rfl rfl ?_
  refine xr_get X fF_X11_26_10 heo rfl dX11_ask_1 ?_
  refine xr_iload_n X 1 dX11_ask_4 rfl rfl ?_
  refine xr_callV X hto rfl kw_647 kw_504 kw_505 cw_X8_one [.int (nI p)] (c_X8_one hto htp h6 (by omega) hap1) rfl rfl rfl rfl rfl rfl rfl dX11_ask_5 ?_
  refine xr_astore_n (lv' := [(3, .ref ap), (0, .ref e), (1, .int (nI p)), (2, .int v)]) X dX11_ask_8 rfl rfl rfl ?_
  refine xr_aload_n X 0 dX11_ask_9 rfl rfl ?_
  refine xr_ifnull X dX11_ask_10 ?_
  refine xr_iload_n X 3 dX11_ask_13 rfl rfl ?_
  refine xr_if_lt (tgt := 22) X dX11_ask_14 (by decide) (fun c_14 => absurd c_14 (by rw [i32_lt, hv, k32_0]; decide)) (fun _ => ?_)
  refine xr_iload_n X 3 dX11_ask_17 rfl rfl ?_
  refine xr_iconst (v := 1) X dX11_ask_18 (by decide) ?_
  refine xr_icmp_le (tgt := 25) X dX11_ask_19 (by decide) (fun _ => ?_) (fun c_19 => absurd (by rw [i32_le, hv, k32_1]; decide) c_19)
  refine xr_aload_n X 1 dX11_ask_25 rfl rfl ?_
  refine xr_get X fF_X11_44_10 heo rfl dX11_ask_26 ?_
  refine xr_callV X hq1 rfl kw_859 kw_860 kw_861 cw_X9_clear [] (c_X9_clear hq1) rfl rfl rfl rfl rfl rfl rfl dX11_ask_29 ?_
  refine xr_heap (h' := (xu (xu h (e + 28) (.inr (8, [.ref (e + 29), .int (nI ((x.1, 0)).2)]))) (e + 29) (.inl (.int, 16, .inl (((x.1, 0)).1))))) (xu_id (xu_at (xne _ rfl) hq2)).symm ?_
  refine xr_iload_n X 3 dX11_ask_32 rfl rfl ?_
  refine xr_if_ne (tgt := 47) X dX11_ask_33 (by decide) (fun c_33 => absurd (by rw [i32_eq, hv]; decide) c_33) (fun _ => ?_)
  refine xr_aload_n X 0 dX11_ask_36 rfl rfl ?_
  refine xr_aload_n X 1 dX11_ask_37 rfl rfl ?_
  refine xr_get X fF_X11_44_10 (xu_at (xn0 _ rfl) (xu_at (xn0 _ rfl) heo)) rfl dX11_ask_38 ?_
  refine xr_callU (y := yX4_size) (x := ⟨"EvePost$Person", "size", "(LEvePost$Trail;)I"⟩) (owner := "EvePost$Person") X (xu_at (by omega) (xu_at (by omega) hob)) rfl kw_863 kw_865 (Or.inr ⟨_, _, _, kw_864, kw_908⟩) (by decide) rfl kw_903 kw_902 cw_X4_size [.ref (e + 28)] (c_X4_size_5 (x := (x.1, 0)) (xu_at (by omega) (xu_at (by omega) hob)) (xu_at (xne _ rfl) (xu_s _ _ _)) (xu_s _ _ _) (Nat.zero_le _) (by omega)) rfl rfl rfl rfl rfl rfl rfl dX11_ask_41 ?_
  refine xr_heap (h' := (xu (xu h (e + 28) (.inr (8, [.ref (e + 29), .int (nI (bg (bg (bg (x.1, 0) 14) 13) 10).2)]))) (e + 29) (.inl (.int, 16, .inl ((bg (bg (bg (x.1, 0) 14) 13) 10).1))))) (xu_22 (xne _ rfl) _ _ _ _) ?_
  refine xr_goto (tgt := 55) X dX11_ask_44 (by decide) ?_
  exact xr_iret X rfl rfl rfl rfl rfl rfl dX11_ask_55
set_option maxRecDepth 100000 in
theorem c_X11_ask_5_1 {l : Launch} {Ω : xW} {h : xH} {sz : Nat} {e w B np day b p : Nat} {ac st : Int32} {kd wh mn : Nat → Nat} {pf : Nat → Option Nat} {x : trS} {v : Int32} (heo : h e = some (eO e w ac st)) (hw : w = e + 16) (hto : h w = some (tO w (nI np) (nI day) (nI b) (nI (moM kd np)))) (htp : h (w + 1) = some (.inl (.object "EvePost$Person", 6, .inr (.inr (.inr (.inr pf)))))) (h6 : np ≤ 6) (hP : PW B h pf np kd wh mn) (hb : b < 2 ^ np) (lk : p < np) (hq1 : h (e + 28) = some (.inr (8, [.ref (e + 29), .int (nI x.2)]))) (hq2 : h (e + 29) = some (.inl (.int, 16, .inl x.1))) (hB9 : e + 49 ≤ B) (hv : v.toInt = 1) (ek : kd p = 5) : xC l Ω yX11_ask cX11_ask 4 (some .int) 6 0 0 [.ref e, .int (nI p), .int v] h sz (some (.int (nI p - (2 * (nI (mn p) - 100))))) (xu (xu h (e + 28) (.inr (8, [.ref (e + 29), .int (nI (bg (bg (bg (bg (bg (x.1, 0) 23) 20) 14) 13) 10).2)]))) (e + 29) (.inl (.int, 16, .inl ((bg (bg (bg (bg (bg (x.1, 0) 23) 20) 14) 13) 10).1)))) (sz) := by
  refine xC_of (lv := [(0, .ref e), (1, .int (nI p)), (2, .int v)]) pn_X11 rfl rfl (fun Γ X hΓ hbs => ?_)
  have X : xX Γ Ω cX11_ask 4 RX11 "ask" (some .int) 6 210 0 0 := X
  subst hΓ
  obtain ⟨⟨ap, hap1, hapB, hap2⟩, kr1, kr2, kr3, kr4⟩ := hP p lk
  have hob : h ap = some (.inr (4, [.int (nI p), .int (nI (wh p)), .int (nI (mn p))])) := by rw [hap2, ek]; rfl
  refine xr_aload_n X 0 dX11_ask_0 rfl rfl ?_
  refine xr_get X fF_X11_26_10 heo rfl dX11_ask_1 ?_
  refine xr_iload_n X 1 dX11_ask_4 rfl rfl ?_
  refine xr_callV X hto rfl kw_647 kw_504 kw_505 cw_X8_one [.int (nI p)] (c_X8_one hto htp h6 (by omega) hap1) rfl rfl rfl rfl rfl rfl rfl dX11_ask_5 ?_
  refine xr_astore_n (lv' := [(3, .ref ap), (0, .ref e), (1, .int (nI p)), (2, .int v)]) X dX11_ask_8 rfl rfl rfl ?_
  refine xr_aload_n X 0 dX11_ask_9 rfl rfl ?_
  refine xr_ifnull X dX11_ask_10 ?_
  refine xr_iload_n X 3 dX11_ask_13 rfl rfl ?_
  refine xr_if_lt (tgt := 22) X dX11_ask_14 (by decide) (fun c_14 => absurd c_14 (by rw [i32_lt, hv, k32_0]; decide)) (fun _ => ?_)
  refine xr_iload_n X 3 dX11_ask_17 rfl rfl ?_
  refine xr_iconst (v := 1) X dX11_ask_18 (by decide) ?_
  refine xr_icmp_le (tgt := 25) X dX11_ask_19 (by decide) (fun _ => ?_) (fun c_19 => absurd (by rw [i32_le, hv, k32_1]; decide) c_19)
  refine xr_aload_n X 1 dX11_ask_25 rfl rfl ?_
  refine xr_get X fF_X11_44_10 heo rfl dX11_ask_26 ?_
  refine xr_callV X hq1 rfl kw_859 kw_860 kw_861 cw_X9_clear [] (c_X9_clear hq1) rfl rfl rfl rfl rfl rfl rfl dX11_ask_29 ?_
  refine xr_heap (h' := (xu (xu h (e + 28) (.inr (8, [.ref (e + 29), .int (nI ((x.1, 0)).2)]))) (e + 29) (.inl (.int, 16, .inl (((x.1, 0)).1))))) (xu_id (xu_at (xne _ rfl) hq2)).symm ?_
  refine xr_iload_n X 3 dX11_ask_32 rfl rfl ?_
  refine xr_if_ne (tgt := 47) X dX11_ask_33 (by decide) (fun _ => ?_) (fun c_33 => absurd c_33 (by rw [i32_eq, hv]; decide))
  refine xr_aload_n X 0 dX11_ask_47 rfl rfl ?_
  refine xr_aload_n X 1 dX11_ask_48 rfl rfl ?_
  refine xr_get X fF_X11_44_10 (xu_at (xn0 _ rfl) (xu_at (xn0 _ rfl) heo)) rfl dX11_ask_49 ?_
  refine xr_callU (y := yX1_mark) (x := ⟨"EvePost$Person", "mark", "(LEvePost$Trail;)I"⟩) (owner := "EvePost$Person") X (xu_at (by omega) (xu_at (by omega) hob)) rfl kw_909 kw_1309 (Or.inr ⟨_, _, _, kw_893, kw_894⟩) (by decide) rfl kw_910 kw_1316 cw_X1_mark [.ref (e + 28)] (c_X1_mark_5 (x := (x.1, 0)) (xu_at (by omega) (xu_at (by omega) hob)) (xu_at (xne _ rfl) (xu_s _ _ _)) (xu_s _ _ _) (Nat.zero_le _) (by omega)) rfl rfl rfl rfl rfl rfl rfl dX11_ask_52 ?_
  refine xr_heap (h' := (xu (xu h (e + 28) (.inr (8, [.ref (e + 29), .int (nI (bg (bg (bg (bg (bg (x.1, 0) 23) 20) 14) 13) 10).2)]))) (e + 29) (.inl (.int, 16, .inl ((bg (bg (bg (bg (bg (x.1, 0) 23) 20) 14) 13) 10).1))))) (xu_22 (xne _ rfl) _ _ _ _) ?_
  exact xr_iret X rfl rfl rfl rfl rfl rfl dX11_ask_55
set_option maxRecDepth 100000 in
theorem c_X11_askN {l : Launch} {Ω : xW} {h : xH} {sz : Nat} {e w np day b : Nat} {ac st : Int32} {kd : Nat → Nat} {pf : Nat → Option Nat} {x : Int32} {v : Int32} (heo : h e = some (eO e w ac st)) (hw : w = e + 16) (hto : h w = some (tO w (nI np) (nI day) (nI b) (nI (moM kd np)))) (htp : h (w + 1) = some (.inl (.object "EvePost$Person", 6, .inr (.inr (.inr (.inr pf)))))) (h6 : np ≤ 6) (hx : ¬ (0 ≤ x.toInt ∧ x.toInt < np)) : xC l Ω yX11_ask cX11_ask 4 (some .int) 6 0 0 [.ref e, .int x, .int v] h sz (some (.int (-1000001))) h (sz) := by
  refine xC_of (lv := [(0, .ref e), (1, .int x), (2, .int v)]) pn_X11 rfl rfl (fun Γ X hΓ hbs => ?_)
  have X : xX Γ Ω cX11_ask 4 RX11 "ask" (some .int) 6 210 0 0 := X
  subst hΓ
  refine xr_aload_n X 0 dX11_ask_0 rfl rfl ?_
  refine xr_get X fF_X11_26_10 heo rfl dX11_ask_1 ?_
  refine xr_iload_n X 1 dX11_ask_4 rfl rfl ?_
  refine xr_callV X hto rfl kw_647 kw_504 kw_505 cw_X8_one [.int x] (c_X8_oneN hto htp h6 hx) rfl rfl rfl rfl rfl rfl rfl dX11_ask_5 ?_
  refine xr_astore_nN (lv' := [(3, .null), (0, .ref e), (1, .int x), (2, .int v)]) X dX11_ask_8 rfl rfl rfl ?_
  refine xr_aload_nN X 0 dX11_ask_9 rfl rfl ?_
  refine xr_ifnullN (tgt := 22) X dX11_ask_10 (by decide) ?_
  refine xr_ldc (v := (-1000001)) X kw_226 dX11_ask_22 ?_
  exact xr_iret X rfl rfl rfl rfl rfl rfl dX11_ask_24
set_option maxRecDepth 100000 in
theorem c_X11_askV {l : Launch} {Ω : xW} {h : xH} {sz : Nat} {e w B np day b p : Nat} {ac st : Int32} {kd wh mn : Nat → Nat} {pf : Nat → Option Nat} {v : Int32} (heo : h e = some (eO e w ac st)) (hw : w = e + 16) (hto : h w = some (tO w (nI np) (nI day) (nI b) (nI (moM kd np)))) (htp : h (w + 1) = some (.inl (.object "EvePost$Person", 6, .inr (.inr (.inr (.inr pf)))))) (h6 : np ≤ 6) (hP : PW B h pf np kd wh mn) (hb : b < 2 ^ np) (lk : p < np) (hv : ¬ (0 ≤ v.toInt ∧ v.toInt ≤ 1)) : xC l Ω yX11_ask cX11_ask 4 (some .int) 6 0 0 [.ref e, .int (nI p), .int v] h sz (some (.int (-1000001))) h (sz) := by
  refine xC_of (lv := [(0, .ref e), (1, .int (nI p)), (2, .int v)]) pn_X11 rfl rfl (fun Γ X hΓ hbs => ?_)
  have X : xX Γ Ω cX11_ask 4 RX11 "ask" (some .int) 6 210 0 0 := X
  subst hΓ
  have h64 := pw_le h6
  obtain ⟨⟨ap, hap1, hapB, hap2⟩, kr1, kr2, kr3, kr4⟩ := hP p lk
  have hkind : kd p = 1 ∨ kd p = 2 ∨ kd p = 3 ∨ kd p = 4 ∨ kd p = 5 := by omega
  refine xr_aload_n X 0 dX11_ask_0 rfl rfl ?_
  refine xr_get X fF_X11_26_10 heo rfl dX11_ask_1 ?_
  refine xr_iload_n X 1 dX11_ask_4 rfl rfl ?_
  refine xr_callV X hto rfl kw_647 kw_504 kw_505 cw_X8_one [.int (nI p)] (c_X8_one hto htp h6 (by omega) hap1) rfl rfl rfl rfl rfl rfl rfl dX11_ask_5 ?_
  refine xr_astore_n (lv' := [(3, .ref ap), (0, .ref e), (1, .int (nI p)), (2, .int v)]) X dX11_ask_8 rfl rfl rfl ?_
  refine xr_aload_n X 0 dX11_ask_9 rfl rfl ?_
  refine xr_ifnull X dX11_ask_10 ?_
  refine xr_iload_n X 3 dX11_ask_13 rfl rfl ?_
  refine xr_if_lt (tgt := 22) X dX11_ask_14 (by decide) (fun c_14 => ?_) (fun c_14 => ?_)
  · have c_14 := i32_lt.mp c_14
    (try simp (disch := omega) only [nI_toInt, i32_add, i32_sub, i32_mul, i64_addl, i32_l, k32_0, k64_0] at c_14)
    refine xr_ldc (v := (-1000001)) X kw_226 dX11_ask_22 ?_
    exact xr_iret X rfl rfl rfl rfl rfl rfl dX11_ask_24
  · have c_14 := mt i32_lt.mpr c_14
    (try simp (disch := omega) only [nI_toInt, i32_add, i32_sub, i32_mul, i64_addl, i32_l, k32_0, k64_0] at c_14)
    refine xr_iload_n X 3 dX11_ask_17 rfl rfl ?_
    refine xr_iconst (v := 1) X dX11_ask_18 (by decide) ?_
    refine xr_icmp_le (tgt := 25) X dX11_ask_19 (by decide) (fun c_19 => ?_) (fun c_19 => ?_)
    · have c_19 := i32_le.mp c_19
      (try simp (disch := omega) only [nI_toInt, i32_add, i32_sub, i32_mul, i64_addl, i32_l, k32_1, k64_1] at c_19)
      exfalso
      omega
      --end
    · have c_19 := mt i32_le.mpr c_19
      (try simp (disch := omega) only [nI_toInt, i32_add, i32_sub, i32_mul, i64_addl, i32_l, k32_1, k64_1] at c_19)
      refine xr_ldc (v := (-1000001)) X kw_226 dX11_ask_22 ?_
      exact xr_iret X rfl rfl rfl rfl rfl rfl dX11_ask_24

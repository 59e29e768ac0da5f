/-! THE CLAIM OUT OF ONE WALK OF THE LAW'S BODY. Your part is whole_start (and what it stands on); all else here is the same for every law, but numbers. -/
def R_law : String := "EvePostLaw"
def lw_P (b : Addr) (xs : List Int32) (args : Array Value) (s : State) : Prop := args = #[.ref b] ∧ s.IntsAt b xs ∧ xs.length ≤ 384 ∧ (Jvm.Cond.and given_1 narrow_1).before args s = true
def lw_Q (_ : Array Value) (s : State) (o : Outcome) (t : State) : Prop := o = .returned (some (.int 1)) ∧ Framed s o t [] 600000 7302250
def lw_Z (below : List Frame) (a : Array Value) (s : State) : State → Prop := fun t => ∃ o, t.status = .running ∧ Ended t below o ∧ lw_Q a s o t
/-- the law's own end, with 1 on the stack, nothing written that was there before, its room as the claim has it -/
theorem lw_ret {p : Program} {l : Launch} {e : Env} {s : State} {m : MethodId} {below : List Frame} {meth : Method} {c : Code} {b : Nat} (hx : p.tables.exec = Jvm.exec) (hb : c.code = code) (hr : meth.sig.returnType = ret) (hlocks : meth.locks = false) {pc : Nat} {H : Heap} {ls : Array Slot} (hdg : decode code pc = .ok (.ireturn, 1)) : W p l e room_1 s m #[Value.ref b] below meth c H [] 600000 7302250 (lw_Z below #[Value.ref b] s) (F0 m pc ls [.int 1]) := by
  intro T hT X
  obtain ⟨fs, hret, hrun, hended, hW, hframe⟩ := X.leave (v := some (.int 1)) (hlocks := hlocks) (fun h => by rw [hr] at h; cases h)
  have hmeth' : T.vm.method? m = some meth := X.method'
  refine ⟨T.setFrames fs, ?_, .returned (some (.int 1)), hrun, hended, rfl, ⟨_, rfl⟩, hW, hframe⟩
  jvm_step X.here [X.here.top, hx, hb, hdg, hmeth', hr, ret, narrow_b1]
  (try refine ⟨rfl, ?_⟩); (try refine ⟨rfl, ?_⟩)
  first | (intro acts; rw [hret _ acts rfl rfl rfl]) | rw [hret _ _ rfl rfl rfl]
  exact Steps.refl _
/-- what holds at the law's entry: the machine, the code, the tables' words (any of lw_tbl by 'hts w (by decide +kernel)'), the script of L ints xs at the cell b, what the Statement gives of the start (any of its parts by flat_of_before) -/
def lw_At (p : Program) (s : State) (m : MethodId) (meth : Method) (c : Code) (b L : Nat) (xs : Nat → Int32) : Prop :=
  p.tables.exec = Jvm.exec ∧ c.code = code ∧ meth.sig.returnType = ret ∧ c.maxLocals = 4 ∧ s.vm.findClass R_law = some m.cls ∧ (∀ w ∈ lw_tbl, w.before #[Value.ref b] s = true) ∧ va_X b L xs s s.heap ∧ b < s.heap.size ∧ meth.locks = false ∧ (Jvm.Cond.and given_1 narrow_1).before #[Value.ref b] s = true
theorem t_ins (ws : List Cond) (ps : List Nat) (h : (ws.map some == ps.map (fun i => lw_tbl[i]?)) = true) : ∀ w ∈ ws, w ∈ lw_tbl := by
  rw [beq_iff_eq] at h
  intro w hw
  have h1 : some w ∈ ps.map (fun i => lw_tbl[i]?) := h ▸ List.mem_map.mpr ⟨w, hw, rfl⟩
  obtain ⟨i, -, hi⟩ := List.mem_map.mp h1
  exact List.mem_of_getElem? hi
theorem t_nM : ∀ q ∈ x_nM, Cond.methodLinkNest q.1 q.2.1 q.2.2.1 q.2.2.2 ∈ lw_tbl := fun q hq => t_ins (x_nM.map (fun q => Cond.methodLinkNest q.1 q.2.1 q.2.2.1 q.2.2.2)) [103, 137, 164, 175, 522, 537, 541, 750] (by decide +kernel) _ (List.mem_map.mpr ⟨q, hq, rfl⟩)
theorem t_ca : ∀ q ∈ x_cast, Cond.castable q.1 q.2 ∈ lw_tbl := fun q hq => t_ins (x_cast.map (fun q => Cond.castable q.1 q.2)) [1318, 1319, 1320, 1321, 1322, 1323, 1324, 1325] (by decide +kernel) _ (List.mem_map.mpr ⟨q, hq, rfl⟩)
theorem t_de : ∀ q ∈ x_decl, Cond.declares q ∈ lw_tbl := fun q hq => t_ins (x_decl.map (fun q => Cond.declares q)) [517, 761, 826] (by decide +kernel) _ (List.mem_map.mpr ⟨q, hq, rfl⟩)
theorem t_ao : ∀ q ∈ x_ao, Cond.arrayOver (.object q) ∈ lw_tbl := fun q hq => t_ins (x_ao.map (fun q => Cond.arrayOver (.object q))) [108, 161] (by decide +kernel) _ (List.mem_map.mpr ⟨q, hq, rfl⟩)
theorem t_aa : Cond.arrayOver (.array .int) ∈ lw_tbl := t_ins [Cond.arrayOver (.array .int)] [89] (by decide +kernel) _ List.mem_cons_self
theorem t_sr : ∀ q ∈ x_txt, Cond.stringRef "EvePost$Tape" q.1 q.2 ∈ lw_tbl := fun q hq => t_ins (x_txt.map (fun q => Cond.stringRef "EvePost$Tape" q.1 q.2)) [332, 393, 394, 395, 396, 397] (by decide +kernel) _ (List.mem_map.mpr ⟨q, hq, rfl⟩)
theorem t_ls : ∀ w ∈ [Cond.laysStatic "java/lang/String" "COMPACT_STRINGS" "Z", Cond.laysStatic "jdk/internal/util/Preconditions" "SIOOBE_FORMATTER" "Ljava/util/function/BiFunction;"], w ∈ lw_tbl := t_ins _ [346, 362] (by decide +kernel)
def x_fl : List Cond := flatC (Jvm.Cond.and given_1 narrow_1)
theorem t_nc : ∀ q ∈ x_nc, Cond.not (.castable q.1 q.2) ∈ x_fl := by decide +kernel
theorem t_cs : Cond.eq (.static "java/lang/String" "COMPACT_STRINGS" "Z") (.int 1) ∈ x_fl := by decide +kernel
theorem t_si : Cond.isRef (.static "jdk/internal/util/Preconditions" "SIOOBE_FORMATTER" "Ljava/util/function/BiFunction;") ∈ x_fl := by decide +kernel
def x_tm (i : Nat) : Term := .string "EvePost$Tape" (x_txt.getD i (0, "")).1
theorem t_s1 : ∀ i, i < 6 → Cond.exactly (x_tm i) "java/lang/String" ∈ x_fl := by decide +kernel
theorem t_s2 : ∀ i, i < 6 → Cond.eq (.field (x_tm i) "java/lang/String" "coder" "B") (.int 0) ∈ x_fl := by decide +kernel
theorem t_s3 : ∀ i, i < 6 → Cond.arrayOf (.field (x_tm i) "java/lang/String" "value" "[B") .byte ∈ x_fl := by decide +kernel
theorem t_s4 : ∀ i, i < 6 → Cond.eq (.length (.field (x_tm i) "java/lang/String" "value" "[B")) (.int (Int32.ofNat (x_len.getD i 0))) ∈ x_fl := by decide +kernel
theorem t_s5 : ∀ i, i < 6 → ∀ j, j < x_len.getD i 0 → Cond.eq (.elem (.field (x_tm i) "java/lang/String" "value" "[B") (.int (Int32.ofNat j))) (.int ((x_byt.getD i []).getD j 0)) ∈ x_fl := by decide +kernel
theorem t_s6 : ∀ i, i < 6 → ∀ j, j < 6 → i ≠ j → Cond.not (Cond.eq (x_tm i) (x_tm j)) ∈ x_fl ∨ Cond.not (Cond.eq (x_tm j) (x_tm i)) ∈ x_fl := by decide +kernel
theorem law_end {p : Program} {l : Launch} {e : Env} {s : State} {m : MethodId} {below : List Frame} {meth : Method} {c : Code} {b : Nat} {Ω : xW} {nm : String} (X : xX (p, l, e, room_1, s, m, #[Value.ref b], below, meth, c) Ω cL_law 4 RL nm ret 12 430 600000 7302250) (hΩ : Ω.2.1 = s.heap.size) {lv : List (Nat × Value)} {h : xH} {sz k n pc : Nat} (hk : k ≤ 600000) (hn : n ≤ 7302250) (d : decode code pc = .ok (.ireturn, 1)) : xG (p, l, e, room_1, s, m, #[Value.ref b], below, meth, c) Ω 4 (lw_Z below #[Value.ref b] s) pc lv [.int 1] h sz k n := by
  obtain ⟨hx, hb, hml, hown, hts, hK, hO, hV, hbs, hlk, hnm, hrt, hRm⟩ := X
  intro H locs ls hz hR hS hl
  refine W.widen hk hn ?_
  refine va_forget (fun q hq => by rw [← hΩ]; exact hS.2.2 q hq) ?_
  exact lw_ret hx hb hrt hlk d

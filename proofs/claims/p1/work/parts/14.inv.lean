/-! THE CALL. -/
section
variable {rho : Nat → Int32} {ta : Nat → Nat × Nat} {b L n0 : Nat} {D : va_G} {l : Launch} {n : Nat} {e : e_E} {tl : List e_E} {I : e_N} {loc stk : List e_V} {fs : List e_F} {w : e_W} {iv : e_I} {tys : List (ClassId × FieldType)} {ws : va_W}
theorem e_natrec {k : Nat} {f : Nat → Bool} (h : Nat.rec (motive := fun _ => Bool) false (fun d _ => f d) k = true) : ∃ d, k = d + 1 ∧ f d = true := by
  cases k with
  | zero => cases h
  | succ d => exact ⟨d, rfl, h⟩
def v_link (own host : String) (i h : Nat) (y : MethodName) : Bool := e_has h (.methodLink own i y) || e_hasH h (.methodLinkNest own i y host)
def v_par (j k : Nat) : Bool := decide ((parseMethodDescriptor (e_mth j).desc).map (fun d => d.parameters.length) = some k)
def v_call (d : e_D) (own host : String) (j k x pc nx h1 h2 h3 h5 : Nat) : Bool := (e_has h3 (.initialized (e_mth j).cls) && Nat.beq nx (pc + 3)) && (match d with
  | .ok (.invokestatic i, 3) => v_par j k && (e_has h2 (.static (e_mth j)) && (e_has h1 (.methodLink own i (e_mth j)) || (e_hasH h1 (.methodLinkNest own i (e_mth j) host) && (e_hh j).isEmpty)))
  | .ok (.invokespecial i, 3) => decide ((e_mth j).name = "<init>" ∧ e_ret j = none ∧ x ≠ 0 ∧ x ≠ 1000 ∧ k ≠ 0) && (v_par j (k - 1) && ((e_hh j).isEmpty && (e_has h2 (.instanceMethod (e_mth j)) && v_link own host i h1 (e_mth j))))
  | .ok (.invokevirtual i, 3) => (decide (x ≠ 0 ∧ x - 1 < e_nc ∧ e_cn (x - 1) = (e_mth j).cls ∧ k ≠ 0) || decide (x = 1000 ∧ (e_mth j).cls = "java/lang/String" ∧ k ≠ 0)) && (v_par j (k - 1) && ((e_hh j).isEmpty && (e_has h2 (.instanceMethod (e_mth j)) && (e_has h5 (.selects (e_mth j).cls (e_mth j) (e_mth j)) && v_link own host i h1 (e_mth j)))))
  | _ => false)
theorem e_cw_n {j : Nat} (h : (e_hh j).isEmpty = true) : e_cw j = .code (e_mth j) (e_byt j) (e_bud j).2.2 (e_ret j) := by
  unfold e_cw
  cases q : e_hh j with
  | nil => rfl
  | cons _ _ => rw [q] at h; cases h
theorem s_call (hl : l.stackTraces = false) (IH : ∀ n', n' ≤ n → e_P rho ta b L n0 D l n') (hcast : ∀ k, k < 4 → Cond.castable (e_ex k) (e_ex k) ∈ e_hot) {gs : List Nat} (hvh : v_hnd (e_own I.1) (e_pg I.1) (e_hn I.1) (e_hh I.1) gs = true) (hvm : v_meth e.2.2.1 = true) (hcwm : e_cw e.2.2.1 ∈ e_gw)
    {h1 h2 h3 h5 : Nat} (hv : v_call (decode (e_byt I.1) e.1) (e_own I.1) (e_host I.1) e.2.2.1 e.2.2.2.1 e.2.2.2.2 e.1 (e_hpc tl) h1 h2 h3 h5 = true) (h : h_call (e_acc n) e tl I loc stk fs w iv = true) : e_GG rho ta b L n0 D l (n + 1) I (e :: tl) loc stk fs w iv := by
  intro N p e' R s m args below meth c H locs ws tys cst ls ads0 hN hF hW hS hL hI hK hA
  obtain ⟨ha, h⟩ := e_and h
  obtain ⟨r1, h⟩ := e_and h
  obtain ⟨r2, h⟩ := e_and h
  have r1 : I.2.2.1 + (e_bud e.2.2.1).1 ≤ (e_bud I.1).1 := e_ble r1
  have r2 : I.2.2.2.1 + (e_bud e.2.2.1).2.1 ≤ (e_bud I.1).2.1 := e_ble r2
  obtain ⟨d, hd, h⟩ := e_natrec (f := fun d => e_acc n (e.2.2.1, e_pg e.2.2.1, 0, 0, d) (e_pg e.2.2.1) (e_entry (e_bud e.2.2.1).2.2 (e_take e.2.2.2.1 [] stk)) [] (((I.1, I.2.1, Nat.add I.2.2.1 (e_bud e.2.2.1).1, Nat.add I.2.2.2.1 (e_bud e.2.2.1).2.1, I.2.2.2.2), e :: tl, loc, e_pops e.2.2.2.1 stk) :: fs) w iv) h
  obtain ⟨g8, ha⟩ := e_and ha
  obtain ⟨gl, ha⟩ := e_and ha
  obtain ⟨gc, gr⟩ := e_and ha
  have g8 := e_ble g8
  have gl := e_ble gl
  have gc := e_ble gc
  obtain ⟨As, rest, hAl, rfl, hSA, hSr⟩ := e_take_s (ads := e_ads ws) e.2.2.2.1 stk [] cst [] hS rfl gl
  rw [List.append_nil] at hSA
  obtain ⟨hK0, hP, hD, hSS, hWR⟩ := id hW
  obtain ⟨k1, k2, k3, k4, k5, k6, k7⟩ := hF.rooms
  obtain ⟨a1, a2, a3, a4, a5, hlk, a7, a8, a9, a10⟩ := id hF
  obtain ⟨lv, hlv, -⟩ := id hL
  have hsum := e_cs_s hSr
  have hM := e_met hl (IH n (Nat.le_refl n)) (tys := tys) hvm h hI hSA gc hD hWR
  obtain ⟨v1, v2, v3, v4, v5, v6, v7, v8⟩ := v_meth_s hvm
  have hPre : ∀ U : State, U.heap = H → s.WarmedH U.vm → e_Pc rho ta b L n0 D tys ws As.toArray As.toArray U := by
    intro U hU hal
    refine ⟨rfl, hK0.moved hal.alike, by rw [hU]; exact hP, by rw [hU]; exact Nat.le_trans k5 hSS.1, ?_⟩
    rw [hU]
    exact k7.moved hal (fun q h1 h2 => hSS.2.1 q h1 h2)
  obtain ⟨hv, hvv⟩ := e_and2 hv
  obtain ⟨z3, hnx⟩ := e_and2 hv
  have hnx := e_beq hnx
  have hin : ∀ w ∈ e_wd e.2.2.1, w ∈ e_gw := fun w hw => by
    rcases List.mem_cons.mp hw with rfl | hw
    · exact hcwm
    · exact hw
  have hpay : ∀ w ∈ e_wd e.2.2.1, ∀ (a' : Array Value) (U : State), s.WarmedH U.vm → w.before a' U = true := fun w hw a' U hU => word_at hU (good_of_word (List.mem_filter.mp (hin w hw)).2) (a5 w (hin w hw))
  have hrm : (e_rmm e.2.2.1 d).frames + 1 ≤ R.frames ∧ 8 + ((e_bud e.2.2.1).2.2 + 11) + (e_rmm e.2.2.1 d).locals ≤ R.locals := ⟨by have z : (e_rmm e.2.2.1 d).frames = d + 8 := rfl; omega, by have z : (e_rmm e.2.2.1 d).locals = 60 * d + 400 := rfl; omega⟩
  have hcells : I.2.2.1 + (e_bud e.2.2.1).1 ≤ R.cells ∧ I.2.2.2.1 + (e_bud e.2.2.1).2.1 ≤ R.slots := ⟨by omega, by omega⟩
  have hWsum : 2 * (F0 m e.1 ls (As.reverse ++ rest)).monitorRoom + (rest.map fun v => v.category).sum ≤ 8 := by
    show 2 * 0 + _ ≤ 8
    rw [hsum]
    omega
  have hmem : e_cw e.2.2.1 ∈ e_wd e.2.2.1 := List.mem_cons_self
  have hpar : ∀ k, v_par e.2.2.1 k = true → ∀ sig, parseMethodDescriptor (e_mth e.2.2.1).desc = some sig → k = sig.parameters.length := by
    intro k hk sig hs
    have := of_decide_eq_true hk
    rw [hs] at this
    exact (Option.some.inj this).symm
  have hCB : (e_hh e.2.2.1).isEmpty = true → (e_rmm e.2.2.1 d).cells = (e_bud e.2.2.1).1 ∧ (e_rmm e.2.2.1 d).slots = (e_bud e.2.2.1).2.1 ∧ (e_rmm e.2.2.1 d).frames + 1 ≤ R.frames ∧ 8 + ((e_bud e.2.2.1).2.2 + 11) + (e_rmm e.2.2.1 d).locals ≤ R.locals ∧ (∀ w ∈ e_wd e.2.2.1, ∀ (a' : Array Value) (U : State), s.WarmedH U.vm → w.before a' U = true) ∧ Cond.code (e_mth e.2.2.1) (e_byt e.2.2.1) (e_bud e.2.2.1).2.2 (e_ret e.2.2.1) ∈ e_wd e.2.2.1 := by
    intro hh
    rw [e_cw_n hh] at hmem
    exact ⟨rfl, rfl, hrm.1, hrm.2, hpay, hmem⟩
  have hCC : (e_hh e.2.2.1).isEmpty = true → (Cond.code (e_mth e.2.2.1) (e_byt e.2.2.1) (e_bud e.2.2.1).2.2 (e_ret e.2.2.1)).before args s = true := by
    intro hh
    rw [e_cw_n hh] at hcwm
    exact a5 _ hcwm
  have fin := fun (hr : vx_Run p l e' R s m args below meth c H locs I.2.2.1 I.2.2.2.1 (e_bud e.2.2.1).1 (e_bud e.2.2.1).2.1 (F0 m e.1 ls (As.reverse ++ rest)) rest (e_Qc rho ta b L n0 D n (((I.1, I.2.1, Nat.add I.2.2.1 (e_bud e.2.2.1).1, Nat.add I.2.2.2.1 (e_bud e.2.2.1).2.1, I.2.2.2.2), e :: tl, loc, e_pops e.2.2.2.1 stk) :: fs) (e_ads ws) As.toArray) (e_XC rho ta b L n0 D n (((I.1, I.2.1, Nat.add I.2.2.1 (e_bud e.2.2.1).1, Nat.add I.2.2.2.1 (e_bud e.2.2.1).2.1, I.2.2.2.2), e :: tl, loc, e_pops e.2.2.2.1 stk) :: fs) (e_ads ws)) (fun q => n0 ≤ q)) =>
    e_after (N := N) IH hcast hvh (by omega) hF hW hSr hL hK hA r1 r2 hnx hr
  have hrecv : e.2.2.2.2 ≠ 0 → e.2.2.2.2 ≠ 1000 → ∃ (a : Nat) (As' : List Value) (vs : List Value) (q0 : Nat), As = .ref a :: As' ∧ ws[q0]? = some (a, .inr (e.2.2.2.2 - 1, vs)) := by
    intro hx hx2
    obtain ⟨ci, hci⟩ : ∃ ci, e.2.2.2.2 = ci + 1 := ⟨e.2.2.2.2 - 1, by omega⟩
    rw [hci] at gr hx2 ⊢
    obtain ⟨v, st', hvs, gr⟩ := e_q1_s (show e_q1 (e_take e.2.2.2.1 [] stk) (fun v _ => cond (Nat.beq ci 999) (Nat.beq v.1 8) (e_cell w v (fun c => cond (Nat.beq c.1 0) (Nat.beq c.2.1 ci) false))) = true from gr)
    rcases e_ite gr with ⟨y, -⟩ | ⟨-, gr⟩
    · have := e_beq y
      omega
    rw [hvs] at hSA
    obtain ⟨cv, As', rfl, hvr, -⟩ := hSA
    obtain ⟨cc, a, x, -, -, gk, rfl, gw, -, gcr⟩ := e_cell_s hWR hvr gr
    obtain ⟨y1, y2⟩ := e_and gk
    have y1 := e_beq y1
    have y2 := e_beq y2
    rcases gcr with ⟨-, -, vs, rfl, -⟩ | ⟨y, -⟩ | ⟨y, -⟩ | ⟨y, -⟩
    · exact ⟨a, As', vs, v.2, rfl, by rw [gw, y2]; rfl⟩
    · omega
    · omega
    · omega
  have hrecT : e.2.2.2.2 = 1000 → ∃ (a : Nat) (As' : List Value), As = .ref a :: As' ∧ ∃ cell : Cell, H[a]? = some cell ∧ cell.vm.isStatics = false ∧ s.vm.findClass "java/lang/String" = some cell.cls := by
    intro hx
    rw [hx] at gr
    obtain ⟨v, st', hvs, gr⟩ := e_q1_s (show e_q1 (e_take e.2.2.2.1 [] stk) (fun v _ => cond (Nat.beq 999 999) (Nat.beq v.1 8) (e_cell w v (fun c => cond (Nat.beq c.1 0) (Nat.beq c.2.1 999) false))) = true from gr)
    have gr : Nat.beq v.1 8 = true := gr
    rw [hvs] at hSA
    obtain ⟨cv, As', rfl, hvr, -⟩ := hSA
    unfold e_VR at hvr
    rw [e_beq gr] at hvr
    obtain ⟨rfl, hlt⟩ := hvr
    exact ⟨_, As', rfl, vk_recv (k7.2.2.2.1 v.2 _ (List.getElem?_eq_getElem hlt)).2 (Nat.zero_lt_one) hSS⟩
  show W p l e' R s m args below meth c H locs I.2.2.1 I.2.2.2.1 _ (F0 m e.1 ls (As.reverse ++ rest))
  split at hvv
  · rename_i idx q2
    obtain ⟨z1, hvv⟩ := e_and2 hvv
    obtain ⟨z2, hvv⟩ := e_and2 hvv
    refine fin ?_
    by_cases hh : (e_hh e.2.2.1).isEmpty = true
    · obtain ⟨c1, c2, c3, c4, c5, c6⟩ := hCB hh
      rcases e_or2 hvv with y | y
      · exact vx_runS (Ts := e_gw) ⟨a1, a2, a3, a4, a5⟩ hM ⟨⟨c1, c2, c3, c4, c5, c6, hCC hh, a5 _ (e_has_s z3), ⟨v7, v8⟩, hpar _ z1, a5 _ (e_has_s y)⟩, a5 _ (e_has_s z2)⟩ ⟨e_Pc_blind, hPre⟩ rfl hAl hlv.1 rfl hWsum q2 hcells
      · obtain ⟨y, -⟩ := e_and2 y
        exact vx_runSN (Ts := e_gw) ⟨a1, a2, a3, a4, a5⟩ hM ⟨⟨⟨c1, c2, c3, c4, c5, c6⟩, hCC hh, a5 _ (e_has_s z3), ⟨v7, v8⟩, hpar _ z1, k7.use (e_hasH_s y) args⟩, a5 _ (e_has_s z2), trivial⟩ ⟨e_Pc_blind, hPre⟩ rfl hAl hlv.1 rfl hWsum q2 hcells
    · rcases e_or2 hvv with y | y
      · cases hq : e_hh e.2.2.1 with
        | nil => rw [hq] at hh; exact absurd rfl hh
        | cons q hs =>
          have ecw : e_cw e.2.2.1 = .codeWith (e_mth e.2.2.1) (e_byt e.2.2.1) (e_bud e.2.2.1).2.2 (e_ret e.2.2.1) (q :: hs) := by unfold e_cw; rw [hq]
          rw [ecw] at hcwm hmem
          exact vx_runSX (Ts := e_gw) (hh := q :: hs) ⟨a1, a2, a3, a4, a5⟩ hM ⟨⟨rfl, rfl, hrm.1, hrm.2, hpay, hmem⟩, a5 _ hcwm, a5 _ (e_has_s z3), ⟨v7, v8⟩, hpar _ z1, a5 _ (e_has_s y), a5 _ (e_has_s z2)⟩ ⟨e_Pc_blind, hPre⟩ rfl hAl hlv.1 rfl hWsum q2 hcells
      · obtain ⟨-, y⟩ := e_and2 y
        exact absurd y hh
  · rename_i idx q2
    obtain ⟨z1, hvv⟩ := e_and2 hvv
    obtain ⟨z2, hvv⟩ := e_and2 hvv
    obtain ⟨hh, hvv⟩ := e_and2 hvv
    obtain ⟨z5, z6⟩ := e_and2 hvv
    obtain ⟨y1, y2, y3, y3', y4⟩ := of_decide_eq_true z1
    obtain ⟨a, As', vs, q0, rfl, hw0⟩ := hrecv y3 y3'
    obtain ⟨c1, c2, c3, c4, c5, c6⟩ := hCB hh
    have hcc := hCC hh
    rw [y2] at c6 hcc
    have hAl' : As'.length = e.2.2.2.1 - 1 := by rw [← hAl]; rfl
    have hst : (F0 m e.1 ls ((Value.ref a :: As').reverse ++ rest)).stack = As'.reverse ++ .ref a :: rest := by show (Value.ref a :: As').reverse ++ rest = _; simp
    refine fin ?_
    rcases e_or2 z6 with y | y
    · exact vx_runI (Ts := e_gw) ⟨a1, a2, a3, a4, a5⟩ hM ⟨⟨c1, c2, c3, c4, c5, c6, hcc, a5 _ (e_has_s z3), ⟨v7, v8⟩, hpar _ z2, a5 _ (e_has_s y)⟩, y1, a5 _ (e_has_s z5)⟩ ⟨e_Pc_blind, hPre⟩ rfl hAl' hlv.1 hst hWsum q2 hcells
    · exact vx_runIN (Ts := e_gw) ⟨a1, a2, a3, a4, a5⟩ hM ⟨⟨⟨c1, c2, c3, c4, c5, c6⟩, hcc, a5 _ (e_has_s z3), ⟨v7, v8⟩, hpar _ z2, k7.use (e_hasH_s y) args⟩, y1, a5 _ (e_has_s z5)⟩ ⟨e_Pc_blind, hPre⟩ rfl hAl' hlv.1 hst hWsum q2 hcells
  · rename_i idx q2
    obtain ⟨z1, hvv⟩ := e_and2 hvv
    obtain ⟨z2, hvv⟩ := e_and2 hvv
    obtain ⟨hh, hvv⟩ := e_and2 hvv
    obtain ⟨z5, hvv⟩ := e_and2 hvv
    obtain ⟨z7, z6⟩ := e_and2 hvv
    obtain ⟨a, As', rfl, hrc, y4⟩ : ∃ (a : Nat) (As' : List Value), As = .ref a :: As' ∧ (∃ cell : Cell, H[a]? = some cell ∧ cell.vm.isStatics = false ∧ s.vm.findClass (e_mth e.2.2.1).cls = some cell.cls) ∧ e.2.2.2.1 ≠ 0 := by
      rcases e_or2 z1 with y | y
      · obtain ⟨y1, y2, y3, y4⟩ := of_decide_eq_true y
        have hnc : e_nc ≤ 500 := Nat.le_of_ble_eq_true rfl
        obtain ⟨a, As', vs, q0, rfl, hw0⟩ := hrecv y1 (by omega)
        have hrc := va_recv hK0 hP (e_cl_at y2) hw0
        rw [y3] at hrc
        exact ⟨a, As', rfl, hrc, y4⟩
      · obtain ⟨y1, y3, y4⟩ := of_decide_eq_true y
        obtain ⟨a, As', rfl, hrc⟩ := hrecT y1
        rw [← y3] at hrc
        exact ⟨a, As', rfl, hrc, y4⟩
    obtain ⟨c1, c2, c3, c4, c5, c6⟩ := hCB hh
    have hcc := hCC hh
    have hAl' : As'.length = e.2.2.2.1 - 1 := by rw [← hAl]; rfl
    have hst : (F0 m e.1 ls ((Value.ref a :: As').reverse ++ rest)).stack = As'.reverse ++ .ref a :: rest := by show (Value.ref a :: As').reverse ++ rest = _; simp
    refine fin ?_
    rcases e_or2 z6 with y | y
    · exact vx_runV (Ts := e_gw) ⟨a1, a2, a3, a4, a5⟩ hM ⟨⟨c1, c2, c3, c4, c5, c6, hcc, a5 _ (e_has_s z3), ⟨v7, v8⟩, hpar _ z2, a5 _ (e_has_s y)⟩, a5 _ (e_has_s z5), a5 _ (e_has_s z7)⟩ ⟨e_Pc_blind, hrc, hPre⟩ rfl hAl' hlv.1 hst hWsum q2 hcells
    · exact vx_runVN (Ts := e_gw) ⟨a1, a2, a3, a4, a5⟩ hM ⟨⟨⟨c1, c2, c3, c4, c5, c6⟩, hcc, a5 _ (e_has_s z3), ⟨v7, v8⟩, hpar _ z2, k7.use (e_hasH_s y) args⟩, a5 _ (e_has_s z5), a5 _ (e_has_s z7)⟩ ⟨e_Pc_blind, hrc, hPre⟩ rfl hAl' hlv.1 hst hWsum q2 hcells
  · cases hvv
end

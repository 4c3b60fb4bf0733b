/-! BEHIND A CALL: on in the caller, or up with an exception. -/
section
variable {rho : Nat → Int32} {ta : Nat → Nat × Nat} {b L n0 : Nat} {D : va_G} {l : Launch} {n : Nat} {e : e_E} {tl : List e_E} {I : e_N} {loc stk : List e_V} {fs : List e_F} {w : e_W} {iv : e_I} {tys : List (ClassId × FieldType)} {ws : va_W}
noncomputable def v_hnd (own : String) (pg : List e_E) : List (Nat × Nat × Nat × Nat) → List (Nat × Nat × Nat × Nat) → List Nat → Bool
  | [], [], _ => true
  | q :: hn, z :: hh, g :: gs => (decide (q.1 = z.1 ∧ q.2.1 = z.2.1 ∧ q.2.2.1 < 4 ∧ z.2.2.2 ≠ 0 ∧ z.2.2.1 = e_hpc (e_drop q.2.2.2 pg)) && e_has g (.classLink own z.2.2.2 (e_ex q.2.2.1))) && v_hnd own pg hn hh gs
  | _, _, _ => false
def e_past (own : String) (E : Nat) (args : Array Value) (s : State) (pc : Nat) (z : ExceptionTableEntry) : Prop := covers z pc = false ∨ (z.catchType ≠ 0 ∧ ∃ nm : String, (Cond.classLink own z.catchType nm).before args s = true ∧ va_Nc (e_ex E) nm s)
theorem e_hnd_s {own : String} {pg : List e_E} {args : Array Value} {s : State} {pc E : Nat} (hts : ∀ w ∈ e_gw, w.before args s = true) (hE : E < 4) (hnc : ∀ j k : Nat, j < 4 → k < 4 → j ≠ k → va_Nc (e_ex j) (e_ex k) s) : ∀ (hn hh : List (Nat × Nat × Nat × Nat)) (gs : List Nat), v_hnd own pg hn hh gs = true →
    (e_hnd hn pc E = 0 ∧ ∀ z ∈ tableOf hh, e_past own E args s pc z) ∨ ∃ (x : Nat) (pre : List ExceptionTableEntry) (z : ExceptionTableEntry) (suf : List ExceptionTableEntry), e_hnd hn pc E = x + 1 ∧ tableOf hh = pre ++ z :: suf ∧ (∀ y ∈ pre, e_past own E args s pc y) ∧ covers z pc = true ∧ z.catchType ≠ 0 ∧ (Cond.classLink own z.catchType (e_ex E)).before args s = true ∧ z.handlerPc = e_hpc (e_drop x pg)
  | [], [], _, _ => Or.inl ⟨rfl, fun z hz => by cases hz⟩
  | [], _ :: _, _, h => by cases h
  | _ :: _, [], _, h => by cases h
  | _ :: _, _ :: _, [], h => by cases h
  | q :: hn, z :: hh, g :: gs, h => by
    obtain ⟨h1, h2⟩ := e_and2 (show ((decide (q.1 = z.1 ∧ q.2.1 = z.2.1 ∧ q.2.2.1 < 4 ∧ z.2.2.2 ≠ 0 ∧ z.2.2.1 = e_hpc (e_drop q.2.2.2 pg)) && e_has g (.classLink own z.2.2.2 (e_ex q.2.2.1))) && v_hnd own pg hn hh gs) = true from h)
    obtain ⟨h1, h3⟩ := e_and2 h1
    obtain ⟨y1, y2, y3, y4, y5⟩ := of_decide_eq_true h1
    have hw := hts _ (e_has_s h3)
    have e1 : e_hnd (q :: hn) pc E = cond (cond (Nat.ble q.1 pc) (cond (Nat.ble (Nat.succ pc) q.2.1) (Nat.beq q.2.2.1 E) false) false) (Nat.succ q.2.2.2) (e_hnd hn pc E) := rfl
    have e2 : tableOf (z :: hh) = ⟨z.1, z.2.1, z.2.2.1, z.2.2.2⟩ :: tableOf hh := rfl
    rw [e1, e2]
    have hcv : covers ⟨z.1, z.2.1, z.2.2.1, z.2.2.2⟩ pc = (decide (z.1 ≤ pc) && decide (pc < z.2.1)) := rfl
    cases c1 : cond (Nat.ble q.1 pc) (cond (Nat.ble (Nat.succ pc) q.2.1) (Nat.beq q.2.2.1 E) false) false with
    | true =>
      obtain ⟨k1, k2⟩ := e_and c1
      obtain ⟨k2, k3⟩ := e_and k2
      have k1 := e_ble k1
      have k2 := e_ble k2
      have k3 := e_beq k3
      rw [k3] at hw
      refine Or.inr ⟨q.2.2.2, [], _, _, rfl, rfl, fun y hy => (by cases hy), ?_, y4, hw, y5⟩
      rw [hcv, ← y1, ← y2, decide_eq_true k1, decide_eq_true (show pc < q.2.1 from k2)]
      rfl
    | false =>
      have hp : e_past own E args s pc ⟨z.1, z.2.1, z.2.2.1, z.2.2.2⟩ := by
        cases c2 : covers ⟨z.1, z.2.1, z.2.2.1, z.2.2.2⟩ pc with
        | false => exact Or.inl c2
        | true =>
          rw [hcv] at c2
          obtain ⟨k1, k2⟩ := e_and2 c2
          have k1 := of_decide_eq_true k1
          have k2 := of_decide_eq_true k2
          refine Or.inr ⟨y4, _, hw, hnc _ _ hE y3 (fun hq => ?_)⟩
          rw [Nat.ble_eq_true_of_le (show q.1 ≤ pc by omega), Nat.ble_eq_true_of_le (show Nat.succ pc ≤ q.2.1 by omega)] at c1
          have c1 : Nat.beq q.2.2.1 E = false := c1
          exact e_bne c1 hq.symm
      rcases e_hnd_s hts hE hnc hn hh gs h2 with ⟨a1, a2⟩ | ⟨x, pre, z', suf, a1, a2, a3, a4⟩
      · exact Or.inl ⟨a1, fun y hy => by
          rcases List.mem_cons.mp hy with rfl | hy
          · exact hp
          · exact a2 y hy⟩
      · exact Or.inr ⟨x, _ :: pre, z', suf, a1, by rw [a2]; rfl, fun y hy => by
          rcases List.mem_cons.mp hy with rfl | hy
          · exact hp
          · exact a3 y hy, a4⟩
theorem e_SR_app {ads : List Nat} {rv rst : List e_V} {ov : Option Value} {crst : List Value} (h : e_OR rho ta b L ads rv ov) (hS : e_SR rho ta b L ads rst crst) : e_SR rho ta b L ads (rv ++ rst) (ov.toList ++ crst) := by
  rcases h with ⟨rfl, rfl⟩ | ⟨v, cv, rfl, rfl, hv⟩
  · exact hS
  · exact ⟨cv, crst, rfl, hv, hS⟩
theorem e_after (IH : ∀ n', n' ≤ n → e_P rho ta b L n0 D l n') (hcast : ∀ k, k < 4 → Cond.castable (e_ex k) (e_ex k) ∈ e_hot) {gs : List Nat} (hvh : v_hnd (e_own I.1) (e_pg I.1) (e_hn I.1) (e_hh I.1) gs = true)
    {N : Nat} {p : Program} {e' : Env} {R : Room} {s : State} {m : MethodId} {args : Array Value} {below : List Frame} {meth : Method} {c : Code} {H : Heap} {locs : List Loc} {ls : Array Slot} {ads0 : List Nat} {mc ms : Nat} {rst : List e_V} {crst st0 : List Value} {a : Array Value}
    (hn : n ≤ N) (hF : e_FC rho ta b L I n0 p l R s m args meth c) (hW : e_WH rho ta b L n0 D s H locs ws tys w) (hS : e_SR rho ta b L (e_ads ws) rst crst) (hL : e_LR rho ta b L (e_ads ws) (e_bud I.1).2.2 ls loc) (hK : ∃ k, e :: tl = (e_pg I.1).drop k) (hA : ads0 <+: e_ads ws) (h1 : I.2.2.1 + mc ≤ (e_bud I.1).1) (h2 : I.2.2.2.1 + ms ≤ (e_bud I.1).2.1) (hnx : e_hpc tl = e.1 + 3)
    (hr : vx_Run p l e' R s m args below meth c H locs I.2.2.1 I.2.2.2.1 mc ms (F0 m e.1 ls st0) crst (e_Qc rho ta b L n0 D n (((I.1, I.2.1, Nat.add I.2.2.1 mc, Nat.add I.2.2.2.1 ms, I.2.2.2.2), e :: tl, loc, rst) :: fs) (e_ads ws) a) (e_XC rho ta b L n0 D n (((I.1, I.2.1, Nat.add I.2.2.1 mc, Nat.add I.2.2.2.1 ms, I.2.2.2.2), e :: tl, loc, rst) :: fs) (e_ads ws)) (fun q => n0 ≤ q)) :
    W p l e' R s m args below meth c H locs I.2.2.1 I.2.2.2.1 (vx_MQ below (e_Qc rho ta b L n0 D N fs ads0) (e_XC rho ta b L n0 D N fs ads0) args s (e_bud I.1).1 (e_bud I.1).2.1 (fun q => n0 ≤ q)) (F0 m e.1 ls st0) := by
  intro T hT X
  have hF2 := hF.room (k := Nat.add I.2.2.1 mc) (j := Nat.add I.2.2.2.1 ms) h1 h2
  have hpg : I.2.1 = e_pg I.1 := hF.2.2.2.2.2.2.2.2.2.1
  rcases hr T hT X with ⟨v, st₀, t, T', L', h0, X', hL', e1, e2, hq, st⟩ | ⟨q, st₀, t, T', L', E, ce, h0, X', hL', e1, e2, hx, hce, hcv, hcl, st⟩
  · obtain ⟨n', rv, w', iv', ws', tys', ov, hn', hres, hI', ho, hor, hK', hP', hD', hR', hA', hF'⟩ := hq
    cases ho
    have hres : e_acc n' (I.1, I.2.1, Nat.add I.2.2.1 mc, Nat.add I.2.2.2.1 ms, I.2.2.2.2) tl loc (rv ++ rst) fs w' iv' = true := hres
    obtain ⟨k1, k2, k3⟩ := vx_keep h0 e1 hW.2.2.2.1 (A1 := fun q => n0 ≤ q) (fun q _ h => h) (fun q h => h) hL' hF'
    have hal : s.vm.Alike t.vm := by rw [← e2]; exact X'.warmed.alike
    have kk := e_k (IH n' hn') hres (N := N) (p := p) (e' := e') (R := R) (s := s) (m := m) (args := args) (below := below) (meth := meth) (c := c) (H := T'.heap) (locs := locs ++ L') (ws := ws') (tys := tys') (cst := v.toList ++ crst) (ls := ls) (ads0 := ads0) (by omega) hF2
      ⟨hK'.moved hal.symm, by rw [e1]; exact hP', hD', k3, hR'⟩ (e_SR_app hor (hS.mono hA')) (hL.mono hA') hI' (e_suf hK) (hA.trans hA') hnx
    obtain ⟨t2, a1, b1⟩ := kk T' rfl X'
    exact ⟨t2, st t2 a1, b1⟩
  · obtain ⟨n', k, w', iv', ws', tys', hn', rfl, hk4, hunw, hI', hK', hP', hD', hR', hA', hF'⟩ := hx
    obtain ⟨k1, k2, k3⟩ := vx_keep h0 e1 hW.2.2.2.1 (A1 := fun q => n0 ≤ q) (fun q _ h => h) (fun q h => h) hL' hF'
    have hal : s.vm.Alike t.vm := by rw [← e2]; exact X'.warmed.alike
    obtain ⟨r1, r2, r3, r4, r5, r6, r7⟩ := hF.rooms
    obtain ⟨a1, a2, a3, a4, a5, hlk, a7, a8, a9, a10⟩ := id hF
    have hWH : e_WH rho ta b L n0 D s T'.heap (locs ++ L') ws' tys' w' := ⟨hK'.moved hal.symm, by rw [e1]; exact hP', hD', k3, hR'⟩
    have hunw : Nat.rec (motive := fun _ => Bool) (e_unw (e_acc n') k fs w' iv') (fun x _ => e_acc n' (I.1, I.2.1, Nat.add I.2.2.1 mc, Nat.add I.2.2.2.1 ms, I.2.2.2.2) (e_drop x I.2.1) loc [(5, 0)] fs w' iv') (e_hnd (e_hn I.1) e.1 k) = true := hunw
    rcases e_hnd_s (pc := e.1) a5 hk4 r7.2.2.2.2.2.2.2.1 _ _ _ hvh with ⟨c1, c2⟩ | ⟨x, pre, z, suf, c1, c2, c3, c4, c5, c6, c7⟩
    · rw [c1] at hunw
      have hunw : e_unw (e_acc n') k fs w' iv' = true := hunw
      have kx : vx_W p l e' R s m args below meth c T'.heap (locs ++ L') (I.2.2.1 + mc) (I.2.2.2.1 + ms) (vx_MQ below (e_Qc rho ta b L n0 D N fs ads0) (e_XC rho ta b L n0 D N fs ads0) args s (e_bud I.1).1 (e_bud I.1).2.1 (fun q => n0 ≤ q)) (F0 m e.1 ls crst) q := by
        refine vx_outP a4 hlk (by rw [a9]; exact c2) (by rw [e1]; exact hce) hcv hcl (fun t2 ht2 hal2 => ?_) k3.2.2 h1 h2
        exact ⟨n', k, w', iv', ws', tys', by omega, rfl, hk4, hunw, hI', hWH.1.moved hal2, by rw [ht2]; exact hWH.2.1, hD', hR', hA.trans hA', k3.F ht2⟩
      obtain ⟨t2, a1, b1⟩ := kx T' rfl X'
      exact ⟨t2, st.trans a1, b1⟩
    · rw [c1] at hunw
      have hunw : e_acc n' (I.1, I.2.1, Nat.add I.2.2.1 mc, Nat.add I.2.2.2.1 ms, I.2.2.2.2) (e_drop x I.2.1) loc [(5, 0)] fs w' iv' = true := hunw
      have kx : vx_W p l e' R s m args below meth c T'.heap (locs ++ L') (I.2.2.1 + mc) (I.2.2.2.1 + ms) (vx_MQ below (e_Qc rho ta b L n0 D N fs ads0) (e_XC rho ta b L n0 D N fs ads0) args s (e_bud I.1).1 (e_bud I.1).2.1 (fun q => n0 ≤ q)) (F0 m e.1 ls crst) q := by
        refine vx_catch a4 pre z suf (by rw [a9]; exact c2) c3 c4 c5 c6 (r7.use (hcast k hk4) args) (by rw [e1]; exact hce) hcv hcl ?_
        exact e_k (IH n' hn') hunw (by omega) hF2 hWH ⟨_, _, rfl, Or.inr ⟨q, rfl⟩, rfl⟩ (hL.mono hA') hI' ⟨x, by rw [hpg, e_drop_eq]⟩ (hA.trans hA') (by rw [c7, hpg])
      obtain ⟨t2, a1, b1⟩ := kx T' rfl X'
      exact ⟨t2, st.trans a1, b1⟩
end

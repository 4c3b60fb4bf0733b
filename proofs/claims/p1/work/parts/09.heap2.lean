/-! NEW CELLS, rows of numbers. -/
section
variable {rho : Nat → Int32} {ta : Nat → Nat × Nat} {b L n0 : Nat} {D : va_G} {l : Launch} {n : Nat} {e : e_E} {tl : List e_E} {I : e_N} {loc stk : List e_V} {fs : List e_F} {w : e_W} {iv : e_I} {tys : List (ClassId × FieldType)} {ws : va_W}
theorem e_rm_s {k : Nat} {kk : e_N → Bool} (h : e_rm I k kk = true) : I.2.2.1 + 1 ≤ (e_bud I.1).1 ∧ I.2.2.2.1 + k ≤ (e_bud I.1).2.1 ∧ kk (I.1, I.2.1, Nat.succ I.2.2.1, Nat.add I.2.2.2.1 k, I.2.2.2.2) = true := by
  obtain ⟨h1, h⟩ := e_and h
  obtain ⟨h2, h⟩ := e_and h
  exact ⟨e_ble h1, e_ble h2, h⟩
theorem e_FC.room {p : Program} {R : Room} {s : State} {m : MethodId} {args : Array Value} {meth : Method} {c : Code} {k j : Nat} (h : e_FC rho b L I n0 p l R s m args meth c) (h1 : k ≤ (e_bud I.1).1) (h2 : j ≤ (e_bud I.1).2.1) : e_FC rho b L (I.1, I.2.1, k, j, I.2.2.2.2) n0 p l R s m args meth c := by
  obtain ⟨a1, a2, a3, a4, a5, a6, a7, a8, a9, a10, a11, a12, a13, a14, a15, a16, a17, a18⟩ := h
  exact ⟨a1, a2, a3, a4, a5, a6, a7, a8, a9, a10, a11, a12, a13, a14, a15, h1, h2, a18⟩
theorem e_FC.rooms {p : Program} {R : Room} {s : State} {m : MethodId} {args : Array Value} {meth : Method} {c : Code} (h : e_FC rho b L I n0 p l R s m args meth c) : (e_bud I.1).1 ≤ R.cells ∧ (e_bud I.1).2.1 ≤ R.slots ∧ I.2.2.2.2 + 8 ≤ R.frames ∧ 60 * I.2.2.2.2 + 400 ≤ R.locals ∧ n0 ≤ s.heap.size ∧ l.stackTraces = false ∧ e_GS rho b L (fun q => n0 ≤ q) s s.heap := by
  obtain ⟨a1, a2, a3, a4, a5, a6, a7, a8, a9, a10, a11, a12, a13, a14, a15, a16, a17, a18, a19, a20⟩ := h
  exact ⟨a12, a13, a14, a15, a18, a19, a20⟩
def v_new (d : e_D) (own : String) (ci k h pc nx : Nat) : Bool := match d with
  | .ok (.new i, 3) => decide (ci < e_nc ∧ k = e_nf ci) && (e_has h (.classLink own i (e_cn ci)) && Nat.beq nx (pc + 3))
  | _ => false
theorem s_new (hCO : e_CO) (IH : e_P rho ta b L n0 D l n) {hh : Nat} (hv : v_new (decode (e_byt I.1) e.1) (e_own I.1) e.2.2.1 e.2.2.2.1 hh e.1 (e_hpc tl) = true) (h : h_new (e_acc n) e tl I loc stk fs w iv = true) : e_GG rho ta b L n0 D l (n + 1) I (e :: tl) loc stk fs w iv := by
  intro N p e' R s m args below meth c H locs ws tys cst ls ads0 hN hF hW hS hL hI hK hA
  obtain ⟨r1, r2, h⟩ := e_rm_s h
  obtain ⟨r3, h⟩ := e_and h
  have r3 := e_ble r3
  obtain ⟨hK0, hP, hD, hSS, hWR⟩ := id hW
  obtain ⟨k1, k2, k3, k4, k5, k6, k7⟩ := hF.rooms
  have hts := hF.2.2.2.2.1
  have hown := hF.2.2.2.1
  show W p l e' R s m args below meth c H locs I.2.2.1 I.2.2.2.1 _ (F0 m e.1 ls cst)
  unfold v_new at hv
  split at hv
  · rename_i idx g
    obtain ⟨z1, z2⟩ := e_and2 hv
    obtain ⟨z2, z3⟩ := e_and2 z2
    obtain ⟨y1, y2⟩ := of_decide_eq_true z1
    obtain ⟨co, co2, co3, co4, co5, co6⟩ := hCO _ y1
    refine va_new (ci := e.2.2.1) (fs := (List.range (e_nf e.2.2.1)).map (fun k => defaultValue (e_ty e.2.2.1 k))) hF.1 hF.2.1 hts co (e_ty e.2.2.1) co2 hown (hts _ (e_has_s z2)) (hts _ co4) (hts _ co5) hK0 hP hD hSS (fun q hq => Nat.le_trans k5 hq) (e_cl_at y1) (fun j hj => ?_) (by omega) (by omega) g (fun q H1 hP1 hD1 hS1 => ?_)
    · show _ = ((List.range (e_nf e.2.2.1)).map (fun k => defaultValue (e_ty e.2.2.1 k))).getD j .null
      simp [hj]
    · have hWR2 : e_WR rho ta b L tys (ws ++ [(q, .inr (e.2.2.1, (List.range (e_nf e.2.2.1)).map (fun k => defaultValue (e_ty e.2.2.1 k))))]) (Nat.succ w.1, e_tset 9 w.2 w.1 (some (0, e.2.2.1, (99, 0), e_fl e.2.2.1))) := by
        refine hWR.push r3 (List.prefix_refl _) ⟨?_, Or.inl ⟨rfl, y1, _, rfl, by simp, fun k hk => ?_⟩⟩
        · have : e_nc ≤ 16777216 := Nat.le_of_ble_eq_true rfl
          show e.2.2.1 ≤ _
          omega
        · have hk : k < e_nf e.2.2.1 := hk
          refine ⟨defaultValue (e_ty e.2.2.1 k), by simp [hk], ?_⟩
          obtain ⟨f1, f2⟩ := co6 k hk
          show e_VR rho ta b L _ (e_get (e_fl e.2.2.1) k (99, 0)) _
          rw [f1]
          cases hty : e_ty e.2.2.1 k <;> first | exact rfl | (rw [hty] at f2; cases f2)
      have hp := e_ads_push (ws := ws) (a := q) (x := .inr (e.2.2.1, (List.range (e_nf e.2.2.1)).map (fun k => defaultValue (e_ty e.2.2.1 k))))
      have hF2 := hF.room (k := Nat.succ I.2.2.1) (j := Nat.add I.2.2.2.1 e.2.2.2.1) r1 r2
      have kk := e_k IH h (N := N) (e' := e') (below := below) (by omega) hF2 (cst := .ref q :: cst) ⟨hK0, hP1, hD1, hS1, hWR2⟩ ⟨_, _, rfl, ⟨q, by
        unfold e_ads
        rw [List.getElem?_map, List.getElem?_append_right (by rw [hWR.1]; exact Nat.le_refl _), hWR.1]
        show Option.map _ ([_][w.1 - w.1]?) = _
        rw [Nat.sub_self]
        rfl, rfl⟩, hS.mono hp⟩ (hL.mono hp) hI (e_suf hK) (hA.trans hp) (e_beq z3)
      rw [y2] at kk
      exact kk
  · cases hv
end

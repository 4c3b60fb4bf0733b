/-! EVERY STEP IS SOUND: what is checked of each entry of the tables, and the machine's soundness from it. -/
/-- what is checked of an entry, with the places of its words -/
noncomputable def v_ent (j : Nat) (e : e_E) (tl : List e_E) (gs : List Nat) : Bool := match e.2.1 with
  | 0 => true
  | 1 => v_load (decode (e_byt j) e.1) e.2.2.2.1 e.2.2.1 e.1 (e_hpc tl)
  | 2 => v_const (decode (e_byt j) e.1) (e_own j) e.2.2.1 e.2.2.2.1 (gs.getD 0 0) e.1 (e_hpc tl)
  | 3 => v_goto (decode (e_byt j) e.1) e.1 (e_hpc (e_jmp (e_pg j) tl e.2.2.2.2))
  | 4 => v_iinc (decode (e_byt j) e.1) (e_bud j).2.2 e.2.2.1 e.2.2.2.1 e.1 (e_hpc tl)
  | 5 => v_retv (decode (e_byt j) e.1) (e_ret j)
  | 6 => v_throw (e_byt j) (e_own j) (e_hh j) e.2.2.1 e.1 (gs.getD 0 0) (gs.getD 1 0) (gs.getD 2 0) (gs.drop 3)
  | 7 => v_new (decode (e_byt j) e.1) (e_own j) e.2.2.1 e.2.2.2.1 (gs.getD 0 0) e.1 (e_hpc tl)
  | 8 => Nat.ble 1 e.2.2.1 && (Nat.ble (Nat.succ e.2.2.1) e_nm && v_call (decode (e_byt j) e.1) (e_own j) (e_host j) e.2.2.1 e.2.2.2.1 e.2.2.2.2 e.1 (e_hpc tl) (gs.getD 0 0) (gs.getD 1 0) (gs.getD 2 0) (gs.getD 3 0))
  | 9 => v_store (decode (e_byt j) e.1) e.2.2.2.1 e.2.2.1 (e_bud j).2.2 e.1 (e_hpc tl)
  | 10 => v_if (decode (e_byt j) e.1) e.2.2.1 e.1 (e_hpc (e_jmp (e_pg j) tl e.2.2.2.2)) (e_hpc tl)
  | 11 => v_get (decode (e_byt j) e.1) (e_own j) (e_host j) e.2.2.1 e.2.2.2.1 (gs.getD 0 0) e.1 (e_hpc tl)
  | 12 => v_plain (decode (e_byt j) e.1) .arraylength e.1 (e_hpc tl)
  | 13 => v_ret (decode (e_byt j) e.1) e.2.2.1 e.2.2.2.1 (e_ret j)
  | 14 => v_newa (decode (e_byt j) e.1) (e_own j) e.2.2.1 (gs.getD 0 0) (gs.getD 1 0) e.1 (e_hpc tl)
  | 15 => v_ifn (decode (e_byt j) e.1) e.2.2.1 e.1 (e_hpc (e_jmp (e_pg j) tl e.2.2.2.2)) (e_hpc tl)
  | 16 => v_icmp (decode (e_byt j) e.1) e.2.2.1 e.1 (e_hpc (e_jmp (e_pg j) tl e.2.2.2.2)) (e_hpc tl)
  | 17 => v_ib (decode (e_byt j) e.1) e.2.2.1 e.1 (e_hpc tl)
  | 18 => v_ald (decode (e_byt j) e.1) e.2.2.1 e.1 (e_hpc tl)
  | 19 => v_put (decode (e_byt j) e.1) (e_own j) (e_host j) (e_ini j) e.2.2.1 e.2.2.2.1 e.2.2.2.2 (gs.getD 0 0) e.1 (e_hpc tl)
  | 20 => v_plain (decode (e_byt j) e.1) .dup e.1 (e_hpc tl)
  | 21 => v_plain (decode (e_byt j) e.1) .pop e.1 (e_hpc tl)
  | 22 => v_plain (decode (e_byt j) e.1) .i2l e.1 (e_hpc tl)
  | 23 => v_plain (decode (e_byt j) e.1) .l2i e.1 (e_hpc tl)
  | 24 => v_tsw (decode (e_byt j) e.1) e.2.2.1 e.2.2.2.1 e.1 (fun k => e_hpc (e_jmp (e_pg j) tl (e_ov (e_ovr e.2.2.2.2) k)))
  | 25 => v_objinit (decode (e_byt j) e.1) (e_own j) (gs.getD 0 0) (gs.getD 1 0) (gs.getD 2 0) e.1 (e_hpc tl)
  | 26 => v_lb (decode (e_byt j) e.1) e.2.2.1 e.1 (e_hpc tl)
  | 27 => v_ls (decode (e_byt j) e.1) e.2.2.1 e.1 (e_hpc tl)
  | 28 => v_plain (decode (e_byt j) e.1) .lcmp e.1 (e_hpc tl)
  | 29 => v_acmp (decode (e_byt j) e.1) e.1 (e_hpc (e_jmp (e_pg j) tl e.2.2.2.2)) (e_hpc tl)
  | 30 => v_ast (decode (e_byt j) e.1) e.2.2.1 e.1 (e_hpc tl)
  | 31 => v_plain (decode (e_byt j) e.1) .dup2 e.1 (e_hpc tl)
  | 32 => v_gets (decode (e_byt j) e.1) (e_own j) e.2.2.1 e.2.2.2.1 (gs.getD 0 0) e.1 (e_hpc tl)
  | 33 => v_acopy (decode (e_byt j) e.1) (e_own j) (gs.getD 0 0) (gs.getD 1 0) (gs.getD 2 0) (gs.getD 3 0) e.1 (e_hpc tl)
  | 34 => v_str (decode (e_byt j) e.1) (e_own j) e.2.2.1 e.2.2.2.1 e.1 (e_hpc tl)
  | 35 => v_plain (decode (e_byt j) e.1) .i2c e.1 (e_hpc tl)
  | 36 => v_plain (decode (e_byt j) e.1) .i2f e.1 (e_hpc tl)
  | 37 => v_plain (decode (e_byt j) e.1) .fdiv e.1 (e_hpc tl)
  | 38 => v_plain (decode (e_byt j) e.1) .f2d e.1 (e_hpc tl)
  | 39 => v_plain (decode (e_byt j) e.1) (.dcmp .l) e.1 (e_hpc tl)
  | 40 => v_tget (decode (e_byt j) e.1) (e_own j) e.2.2.1 (gs.getD 0 0) e.1 (e_hpc tl)
  | 41 => v_plain (decode (e_byt j) e.1) .arraylength e.1 (e_hpc tl)
  | 42 => v_plain (decode (e_byt j) e.1) .baload e.1 (e_hpc tl)
  | 43 => v_astq (decode (e_byt j) e.1) e.2.2.1 e.1 (e_hpc tl)
  | 44 => v_mm (decode (e_byt j) e.1) (e_own j) Lib.Math.max.name Lib.Math.max.code (gs.getD 0 0) (gs.getD 1 0) (gs.getD 2 0) (gs.getD 3 0) e.1 (e_hpc tl)
  | 45 => v_mm (decode (e_byt j) e.1) (e_own j) Lib.Math.min.name Lib.Math.min.code (gs.getD 0 0) (gs.getD 1 0) (gs.getD 2 0) (gs.getD 3 0) e.1 (e_hpc tl)
  | 46 => v_throwX (e_byt j) (e_own j) (e_hh j) e.2.2.1 e.1 (gs.getD 0 0) (gs.getD 1 0) (gs.getD 2 0) (gs.drop 3)
  | 47 => v_ib (decode (e_byt j) e.1) e.2.2.1 e.1 (e_hpc tl)
  | 48 => v_plain (decode (e_byt j) e.1) .i2l e.1 (e_hpc tl)
  | 49 => v_plain (decode (e_byt j) e.1) .lcmp e.1 (e_hpc tl)
  | 50 => v_ast (decode (e_byt j) e.1) e.2.2.1 e.1 (e_hpc tl)
  | 51 => v_load (decode (e_byt j) e.1) e.2.2.2.1 e.2.2.1 e.1 (e_hpc tl)
  | _ => false
section
variable {rho : Nat → Int32} {ta : Nat → Nat × Nat} {b L n0 : Nat} {D : va_G} {l : Launch}
theorem e_main (hl : l.stackTraces = false) (hL6 : L ≤ 6) (hr : e_RH rho) (hC : ∀ k, k < 54 → e_acc (e_kf k) (e_kI k) (e_kc k) (e_kl k) [] (e_ks k) (e_kw k) (e_kv k) = true) (hCO : e_CO) (hTx : ∀ j, (e_tx j).length ≤ 1000) (hcast : ∀ k, k < 4 → Cond.castable (e_ex k) (e_ex k) ∈ e_hot) (hVM : ∀ j, j < e_nm → v_meth j = true) (hCW : ∀ j, 0 < j → j < e_nm → e_cw j ∈ e_gw) (hVH : ∀ j, j < e_nm → ∃ gs, v_hnd (e_own j) (e_pg j) (e_hn j) (e_hh j) gs = true)
    (hV : ∀ j, j < e_nm → ∀ k e tl, (e_pg j).drop k = e :: tl → ∃ gs, v_ent j e tl gs = true) : ∀ n, e_P rho ta b L n0 D l n := by
  intro n
  induction n using Nat.strongRecOn with
  | _ n ih =>
    cases n with
    | zero => intro I cod loc stk fs w iv h; cases h
    | succ n =>
      intro I cod loc stk fs w iv h
      rcases e_or (show cond (e_kn n I cod loc stk fs w iv) true (e_step (e_acc n) I cod loc stk fs w iv) = true from h) with h | h
      · exact e_cut hr hC (fun n' hn' => ih n' (by omega)) h
      cases cod with
      | nil => cases h
      | cons e tl =>
        intro N p e' R s m args below meth c H locs ws tys cst ls ads0 hN hF hW hS hL hI hK hA
        have hj : I.1 < e_nm := hF.2.2.2.2.2.2.2.2.2.2.1
        have hpg : I.2.1 = e_pg I.1 := hF.2.2.2.2.2.2.2.2.2.1
        have IHs : ∀ n', n' ≤ n → e_P rho ta b L n0 D l n' := fun n' hn' => ih n' (by omega)
        have IH := IHs n (Nat.le_refl n)
        have hK2 := hK
        obtain ⟨k, hk⟩ := hK2
        obtain ⟨gs, hv⟩ := hV I.1 hj k e tl hk.symm
        have h : (e_sel e.2.1).2 (e_acc n) e tl I loc stk fs w iv = true := h
        refine (show e_GG rho ta b L n0 D l (n + 1) I (e :: tl) loc stk fs w iv from ?_) N p e' R s m args below meth c H locs ws tys cst ls ads0 hN hF hW hS hL hI hK hA
        unfold v_ent at hv
        split at hv
        · rename_i q; rw [q] at h; cases h
        · rename_i q; rw [q] at h; exact s_load IH hv h
        · rename_i q; rw [q] at h; exact s_const IH hv h
        · rename_i q; rw [q] at h; rw [← hpg] at hv; exact s_goto IH hv h
        · rename_i q; rw [q] at h; exact s_iinc IH hv h
        · rename_i q; rw [q] at h; exact s_retv hv h
        · rename_i q; rw [q] at h; exact s_throw hv h
        · rename_i q; rw [q] at h; exact s_new hCO IH hv h
        · rename_i q
          rw [q] at h
          obtain ⟨hv0, hv⟩ := e_and2 hv
          obtain ⟨hv1, hv2⟩ := e_and2 hv
          obtain ⟨gs2, hvh⟩ := hVH I.1 hj
          exact s_call hl IHs hcast hvh (hVM _ (e_ble hv1)) (hCW _ (e_ble hv0) (e_ble hv1)) hv2 h
        · rename_i q; rw [q] at h; exact s_store IH hv h
        · rename_i q; rw [q] at h; rw [← hpg] at hv; exact s_if IH hv h
        · rename_i q; rw [q] at h; exact s_get hCO IH hv h
        · rename_i q; rw [q] at h; exact s_alen IH hv h
        · rename_i q; rw [q] at h; exact s_ret hv h
        · rename_i q; rw [q] at h; exact s_newa IH hv h
        · rename_i q; rw [q] at h; rw [← hpg] at hv; exact s_ifn IH hv h
        · rename_i q; rw [q] at h; rw [← hpg] at hv; exact s_icmp IH hv h
        · rename_i q; rw [q] at h; exact s_ibin hr.1 IH hv h
        · rename_i q; rw [q] at h; exact s_ald hL6 IH hv h
        · rename_i q; rw [q] at h; exact s_put hCO IH hv h
        · rename_i q; rw [q] at h; exact s_dup IH hv h
        · rename_i q; rw [q] at h; exact s_pop IH hv h
        · rename_i q; rw [q] at h; exact s_i2l IH hv h
        · rename_i q; rw [q] at h; exact s_l2i IH hv h
        · rename_i q; rw [q] at h; rw [← hpg] at hv; exact s_tsw IH hv h
        · rename_i q; rw [q] at h; exact s_objinit IH hv h
        · rename_i q; rw [q] at h; exact s_lbin IH hv h
        · rename_i q; rw [q] at h; exact s_lsh IH hv h
        · rename_i q; rw [q] at h; exact s_lcmp IH hv h
        · rename_i q; rw [q] at h; rw [← hpg] at hv; exact s_acmp IH hv h
        · rename_i q; rw [q] at h; exact s_ast IH hv h
        · rename_i q; rw [q] at h; exact s_dup2 IH hv h
        · rename_i q; rw [q] at h; exact s_gets IH hv h
        · rename_i q; rw [q] at h; exact s_acopy IH hv h
        · rename_i q; rw [q] at h; exact s_str IH hv h
        · rename_i q; rw [q] at h; exact s_i2c IH hv h
        · rename_i q; rw [q] at h; exact s_i2f IH hv h
        · rename_i q; rw [q] at h; exact s_fdiv IH hv h
        · rename_i q; rw [q] at h; exact s_f2d IH hv h
        · rename_i q; rw [q] at h; exact s_dcmp IH hv h
        · rename_i q; rw [q] at h; exact s_tget IH hv h
        · rename_i q; rw [q] at h; exact s_tlen IH hv h
        · rename_i q; rw [q] at h; exact s_tald hTx IH hv h
        · rename_i q; rw [q] at h; exact s_astq IH hv h
        · rename_i q; rw [q] at h; exact s_mmax IH hv h
        · rename_i q; rw [q] at h; exact s_mmin IH hv h
        · rename_i q; rw [q] at h; exact s_throwX hv h
        · rename_i q; rw [q] at h; exact s_ibinS hr IH hv h
        · rename_i q; rw [q] at h; exact s_i2lS IH hv h
        · rename_i q; rw [q] at h; exact s_lcmpS IH hv h
        · rename_i q; rw [q] at h; exact s_astS IH hv h
        · rename_i q; rw [q] at h; exact s_load IH hv h
        · cases hv
end

/-! WHAT THE START GIVES: the classes, the texts, the statics, out of the words and the Statement's premises. -/
noncomputable section
def e_ptx (n : Nat) : Nat := cond (Nat.ble n 14) (cond (Nat.ble n 6) (cond (Nat.ble n 2) (cond (Nat.ble n 0) (245) (cond (Nat.ble n 1) (273) (293))) (cond (Nat.ble n 4) (cond (Nat.ble n 3) (318) (357)) (cond (Nat.ble n 5) (405) (439)))) (cond (Nat.ble n 10) (cond (Nat.ble n 8) (cond (Nat.ble n 7) (484) (529)) (cond (Nat.ble n 9) (555) (596))) (cond (Nat.ble n 12) (cond (Nat.ble n 11) (636) (665)) (cond (Nat.ble n 13) (692) (712))))) (cond (Nat.ble n 22) (cond (Nat.ble n 18) (cond (Nat.ble n 16) (cond (Nat.ble n 15) (752) (790)) (cond (Nat.ble n 17) (830) (851))) (cond (Nat.ble n 20) (cond (Nat.ble n 19) (881) (903)) (cond (Nat.ble n 21) (930) (966)))) (cond (Nat.ble n 26) (cond (Nat.ble n 24) (cond (Nat.ble n 23) (992) (1019)) (cond (Nat.ble n 25) (1059) (1108))) (cond (Nat.ble n 28) (cond (Nat.ble n 27) (1143) (1189)) (cond (Nat.ble n 29) (1235) (1242)))))
def e_pnc (n : Nat) : Nat := cond (Nat.ble n 7) (cond (Nat.ble n 3) (cond (Nat.ble n 1) (cond (Nat.ble n 0) (0) (24)) (cond (Nat.ble n 2) (65) (85))) (cond (Nat.ble n 5) (cond (Nat.ble n 4) (44) (0)) (cond (Nat.ble n 6) (64) (84)))) (cond (Nat.ble n 11) (cond (Nat.ble n 9) (cond (Nat.ble n 8) (45) (25)) (cond (Nat.ble n 10) (0) (86))) (cond (Nat.ble n 13) (cond (Nat.ble n 12) (48) (28)) (cond (Nat.ble n 14) (68) (0))))
theorem e_condl {c : Bool} {x y : List Nat} (hx : x.length ≤ 1000) (hy : y.length ≤ 1000) : (cond c x y).length ≤ 1000 := by
  cases c
  · exact hy
  · exact hx
theorem e_kTx : ∀ j, (e_tx j).length ≤ 1000 := fun _ => (e_condl (e_condl (e_condl (e_condl (Nat.le_of_ble_eq_true rfl) (e_condl (Nat.le_of_ble_eq_true rfl) (Nat.le_of_ble_eq_true rfl))) (e_condl (e_condl (Nat.le_of_ble_eq_true rfl) (Nat.le_of_ble_eq_true rfl)) (e_condl (Nat.le_of_ble_eq_true rfl) (Nat.le_of_ble_eq_true rfl)))) (e_condl (e_condl (e_condl (Nat.le_of_ble_eq_true rfl) (Nat.le_of_ble_eq_true rfl)) (e_condl (Nat.le_of_ble_eq_true rfl) (Nat.le_of_ble_eq_true rfl))) (e_condl (e_condl (Nat.le_of_ble_eq_true rfl) (Nat.le_of_ble_eq_true rfl)) (e_condl (Nat.le_of_ble_eq_true rfl) (Nat.le_of_ble_eq_true rfl))))) (e_condl (e_condl (e_condl (e_condl (Nat.le_of_ble_eq_true rfl) (Nat.le_of_ble_eq_true rfl)) (e_condl (Nat.le_of_ble_eq_true rfl) (Nat.le_of_ble_eq_true rfl))) (e_condl (e_condl (Nat.le_of_ble_eq_true rfl) (Nat.le_of_ble_eq_true rfl)) (e_condl (Nat.le_of_ble_eq_true rfl) (Nat.le_of_ble_eq_true rfl)))) (e_condl (e_condl (e_condl (Nat.le_of_ble_eq_true rfl) (Nat.le_of_ble_eq_true rfl)) (e_condl (Nat.le_of_ble_eq_true rfl) (Nat.le_of_ble_eq_true rfl))) (e_condl (e_condl (Nat.le_of_ble_eq_true rfl) (Nat.le_of_ble_eq_true rfl)) (e_condl (Nat.le_of_ble_eq_true rfl) (Nat.le_of_ble_eq_true rfl))))))
def v_co (ci : Nat) (hs : List Nat) : Bool :=
  (List.range (e_nf ci)).all (fun k => e_has (hs.getD k 0) (u_lay (e_cn ci) (e_FT ci) k)) && (decide (∀ k, k < e_nf ci → parseFieldDescriptor (e_FT ci k).2.2.1 = some (e_ty ci k)) && (decide (∀ a, a < e_nf ci → ∀ b, b < e_nf ci → a ≠ b → (e_FT ci a).2.1 ≠ (e_FT ci b).2.1) &&
    (e_has (hs.getD (e_nf ci) 0) (.instantiable (e_cn ci) (e_nf ci)) && (e_has (hs.getD (e_nf ci + 1) 0) (.initialized (e_cn ci)) &&
      decide (∀ k, k < e_nf ci → e_get (e_fl ci) k (99, 0) = (match e_ty ci k with | .int => (0, 0) | .boolean => (0, 0) | .long => (1, 0) | _ => (3, 0)) ∧ (match e_ty ci k with | .int => true | .boolean => true | .long => true | .object _ => true | .array _ => true | _ => false) = true)))))
set_option maxRecDepth 100000 in
theorem e_kCO0 : v_rng (fun ci => v_co ci (e_hco ci)) 0 17 = true := by decide +kernel
theorem e_kCO : e_CO := by
  intro ci hci
  have hci : ci < 17 := hci
  have h := v_rng_s _ _ e_kCO0 ci (by omega) (by omega)
  obtain ⟨h1, h⟩ := e_and2 h
  obtain ⟨h2, h⟩ := e_and2 h
  obtain ⟨h3, h⟩ := e_and2 h
  obtain ⟨h4, h⟩ := e_and2 h
  obtain ⟨h5, h6⟩ := e_and2 h
  refine ⟨fun w hw => ?_, of_decide_eq_true h2, of_decide_eq_true h3, e_has_s h4, e_has_s h5, of_decide_eq_true h6⟩
  obtain ⟨k, hk, rfl⟩ := List.mem_map.mp hw
  exact e_has_s (List.all_eq_true.mp h1 k hk)
def e_flat : List Cond := flatC (Cond.and given_1 narrow_1)
def e_fat (i : Nat) (w : Cond) : Bool := match e_flat[i]? with | some x => decide (x = w) | none => false
theorem e_fat_s {i : Nat} {w : Cond} (h : e_fat i w = true) : w ∈ e_flat := by
  unfold e_fat at h
  split at h
  · rename_i x hx
    have h1 := of_decide_eq_true h
    subst h1
    exact List.mem_of_getElem? hx
  · cases h
/-- what the Statement says of a text -/
def e_txw (own : String) (k : Nat) (l : List Nat) : List Cond :=
  .exactly (.string own k) "java/lang/String" :: .eq (.field (.string own k) "java/lang/String" "coder" "B") (.int 0) :: .arrayOf (.field (.string own k) "java/lang/String" "value" "[B") .byte ::
    .eq (.length (.field (.string own k) "java/lang/String" "value" "[B")) (.int (Int32.ofNat l.length)) ::
    (List.range l.length).map (fun i => .eq (.elem (.field (.string own k) "java/lang/String" "value" "[B") (.int (Int32.ofNat i))) (.int ((l.map e_i).getD i 0)))
def v_tx (j : Nat) : Bool := match e_srs[j]? with
  | some q => e_at (e_htx j) (.stringRef q.1 q.2.1 q.2.2) && decide ((e_flat.drop (e_ptx j)).take ((e_tx j).length + 4) = e_txw q.1 q.2.1 (e_tx j))
  | none => false
set_option maxRecDepth 100000 in
theorem e_kTX0 : v_rng v_tx 0 31 = true := by decide +kernel
set_option maxRecDepth 100000 in
theorem e_kNC0 : v_rng (fun j => v_rng (fun k => Nat.beq j k || e_fat (e_pnc (4 * j + k)) (.not (.castable (e_ex j) (e_ex k)))) 0 4) 0 4 = true := by decide +kernel
theorem e_kST0 : (e_fat 4 (.isRef (.static Bundle.tN "UNASSIGNED_STACK" Bundle.steD)) && (e_fat 5 (.isRef (.static Bundle.tN "SUPPRESSED_SENTINEL" Bundle.listD)) && (e_fat 6 (.eq (.static "java/lang/String" "COMPACT_STRINGS" "Z") (.int 1)) && e_fat 7 (.isRef (.static "jdk/internal/util/Preconditions" "SIOOBE_FORMATTER" "Ljava/util/function/BiFunction;"))))) = true := by decide +kernel
theorem e_lay1 : Cond.laysStatic Bundle.tN "UNASSIGNED_STACK" Bundle.steD ∈ lw_tbl := by decide +kernel
theorem e_lay2 : Cond.laysStatic Bundle.tN "SUPPRESSED_SENTINEL" Bundle.listD ∈ lw_tbl := by decide +kernel
theorem e_lay3 : Cond.laysStatic "java/lang/String" "COMPACT_STRINGS" "Z" ∈ lw_tbl := by decide +kernel
theorem e_lay4 : Cond.laysStatic "jdk/internal/util/Preconditions" "SIOOBE_FORMATTER" "Ljava/util/function/BiFunction;" ∈ lw_tbl := by decide +kernel
theorem e_ini1 : Cond.initialized Bundle.tN ∈ lw_tbl := by decide +kernel
theorem e_ini3 : Cond.initialized "java/lang/String" ∈ lw_tbl := by decide +kernel
theorem e_ini4 : Cond.initialized "jdk/internal/util/Preconditions" ∈ lw_tbl := by decide +kernel
theorem e_srs_len : e_srs.length = 31 := rfl
theorem e_text {s : State} {b : Nat} {A : Nat → Prop} (hts : ∀ w ∈ lw_tbl, w.before #[Value.ref b] s = true) (hs : ∀ c ∈ e_flat, c.before #[Value.ref b] s = true) (hA : ∀ a : Nat, a < s.heap.size → ¬ A a) (j : Nat) :
    ∃ q : Nat × Nat, ∀ r, e_srs[j]? = some r → vk_R r.1 r.2.1 r.2.2 q.1 s ∧ vk_S 1 [(e_tx j).length] [(e_tx j).map e_i] (fun _ => q.1) (fun _ => q.2) A s s.heap := by
  cases hr : e_srs[j]? with
  | none => exact ⟨(0, 0), fun r h => by cases h⟩
  | some r =>
    have hj : j < 31 := by rw [← e_srs_len]; exact (List.getElem?_eq_some_iff.mp hr).1
    have h := v_rng_s _ _ e_kTX0 j (by omega) (by omega)
    unfold v_tx at h
    rw [hr] at h
    obtain ⟨h1, h2⟩ := e_and2 h
    have h2 := of_decide_eq_true h2
    have hm : ∀ w ∈ e_txw r.1 r.2.1 (e_tx j), w.before #[Value.ref b] s = true := fun w hw => by
      rw [← h2] at hw
      exact hs w (List.mem_of_mem_drop (List.mem_of_mem_take hw))
    have hl := e_kTx j
    obtain ⟨adK, adV, hS, hE⟩ := vk_Sof (args := #[Value.ref b]) (s := s) (N := 1) (tm := fun _ => .string r.1 r.2.1) (len := [(e_tx j).length]) (byt := [(e_tx j).map e_i]) (A := A)
      (fun i hi => by rw [show i = 0 by omega]; show (e_tx j).length < 2 ^ 31; omega)
      (fun i _ => hm _ (by unfold e_txw; exact List.mem_cons_self))
      (fun i _ => hm _ (by unfold e_txw; exact List.mem_cons_of_mem _ List.mem_cons_self))
      (fun i _ => hm _ (by unfold e_txw; exact List.mem_cons_of_mem _ (List.mem_cons_of_mem _ List.mem_cons_self)))
      (fun i hi => by rw [show i = 0 by omega]; exact hm _ (by unfold e_txw; exact List.mem_cons_of_mem _ (List.mem_cons_of_mem _ (List.mem_cons_of_mem _ List.mem_cons_self))))
      (fun i hi k hk => by
        rw [show i = 0 by omega] at hk ⊢
        exact hm _ (by unfold e_txw; exact List.mem_cons_of_mem _ (List.mem_cons_of_mem _ (List.mem_cons_of_mem _ (List.mem_cons_of_mem _ (List.mem_map.mpr ⟨k, List.mem_range.mpr hk, rfl⟩))))))
      (fun i k hi hk hne => absurd (by omega : i = k) hne) hA
    refine ⟨(adK 0, adV 0), fun r' hr' => ?_⟩
    cases hr'
    refine ⟨vk_R.of (hts _ (e_at_s h1)) (hE 0 (by omega)), ⟨fun i hi => ?_, fun i k hi hk _ => by omega⟩⟩
    rw [show i = 0 by omega]
    exact hS.1 0 (by omega)
theorem e_GS0 {s : State} {b L : Nat} {rho : Nat → Int32} (hts : ∀ w ∈ lw_tbl, w.before #[Value.ref b] s = true) (hgv : (Cond.and given_1 narrow_1).before #[Value.ref b] s = true) (hX : va_X b L rho s s.heap) (hbl : b < s.heap.size) : ∃ ta, e_GS rho ta b L (fun q => s.heap.size ≤ q) s s.heap := by
  have hs : ∀ c ∈ e_flat, c.before #[Value.ref b] s = true := flat_of_before _ hgv
  have hA : ∀ a : Nat, a < s.heap.size → ¬ (fun q => s.heap.size ≤ q) a := fun a h => Nat.not_le.mpr h
  obtain ⟨ta, hta⟩ := Classical.axiomOfChoice (e_text (A := fun q => s.heap.size ≤ q) hts hs hA)
  obtain ⟨k1, k⟩ := e_and2 e_kST0
  obtain ⟨k2, k⟩ := e_and2 k
  obtain ⟨k3, k4⟩ := e_and2 k
  refine ⟨ta, fun w hw => ?_, vx_Zqof (hts _ e_lay1) (hts _ e_ini1) (hs _ (e_fat_s k1)) hA, vx_Zqof (hts _ e_lay2) (hts _ e_ini1) (hs _ (e_fat_s k2)) hA, fun j q hj => hta j q hj, hX, hbl, Nat.not_le.mpr hbl, fun j k hj hk hne => ?_, va_Zof (hts _ e_lay3) (hts _ e_ini3) (va_eqi (hs _ (e_fat_s k3))) hA, va_Zqof (hts _ e_lay4) (hts _ e_ini4) (hs _ (e_fat_s k4)) hA⟩
  · have g := hts w (List.mem_filter.mp hw).1
    have hh := (List.mem_filter.mp hw).2
    unfold e_isHot at hh
    split at hh
    · exact va_tabs rfl rfl g
    · exact va_tabs rfl rfl g
    · exact va_tabs rfl rfl g
    · exact va_tabs rfl rfl g
    · exact va_AO.of g
    · cases hh
  · have h1 := v_rng_s _ _ (v_rng_s _ _ e_kNC0 j (by omega) (by omega)) k (by omega) (by omega)
    rcases e_or2 h1 with q | q
    · exact absurd (e_beq q) hne
    · exact va_Nc.of (hs _ (e_fat_s q))
theorem e_K0 {s : State} {b : Nat} (hts : ∀ w ∈ lw_tbl, w.before #[Value.ref b] s = true) : ∃ D : va_G, va_K D e_cl [] s := by
  have h1 : ∀ ci, ci < e_nc → ∃ z : ClassId × (Nat → Nat), u_Kn s (e_cn ci) (e_FT ci) (e_nf ci) z.1 z.2 := fun ci hci => by
    obtain ⟨q1, -, -, q4, -⟩ := e_kCO ci hci
    obtain ⟨c, i, h⟩ := u_known (n := e_nf ci) hts (fun w hw => (List.mem_filter.mp (q1 w hw)).1) (hts _ (List.mem_filter.mp q4).1)
    exact ⟨(c, i), h⟩
  obtain ⟨z0, -⟩ := h1 0 (Nat.le_of_ble_eq_true rfl)
  have h2 : ∀ ci, ∃ z : ClassId × (Nat → Nat), ci < e_nc → u_Kn s (e_cn ci) (e_FT ci) (e_nf ci) z.1 z.2 := fun ci => by
    by_cases hci : ci < e_nc
    · obtain ⟨z, h⟩ := h1 ci hci
      exact ⟨z, fun _ => h⟩
    · exact ⟨z0, fun h => absurd h hci⟩
  obtain ⟨z, hz⟩ := Classical.axiomOfChoice h2
  refine ⟨(fun k => (z k).1, fun k => (z k).2), fun k q hq => ?_, fun k q h => by simp at h⟩
  have hlt : k < e_nc := by
    have h := (List.getElem?_eq_some_iff.mp hq).1
    unfold e_cl at h
    rw [List.length_map, List.length_range] at h
    exact h
  rw [e_cl_at hlt] at hq
  cases hq
  exact hz k hlt
end

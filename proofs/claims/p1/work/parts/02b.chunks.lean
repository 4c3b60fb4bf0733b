/-! THE CHUNKS of the tables' words, laid by a program. -/
def e_ch (c : Nat) : List Cond := match c with
  | 0 => k2_sels lw_privs_1
  | 1 => k2_sels lw_privs_2
  | 2 => k2_sels lw_privs_3
  | 3 => k2_sels lw_privs_4
  | 4 => k2_sels lw_privs_5
  | 5 => k2_sels lw_privs_6
  | 6 => k2_sels lw_privs_7
  | 7 => k2_sels lw_privs_8
  | 8 => tables_1_1
  | 9 => tables_1_2
  | 10 => tables_1_3
  | 11 => tables_1_4
  | 12 => tables_1_5
  | 13 => tables_1_6
  | 14 => tables_1_7
  | 15 => tables_1_8
  | 16 => tables_1_9
  | 17 => tables_1_10
  | 18 => tables_1_11
  | _ => []
theorem e_ch_p {qs : List (MethodName × Nat)} {w : Cond} (h : w ∈ k2_sels qs) (hs : ∀ q ∈ qs, q ∈ lw_privs) : w ∈ lw_tbl := by
  obtain ⟨q, hq, rfl⟩ := List.mem_map.mp h
  exact List.mem_append_left _ (List.mem_map.mpr ⟨q, hs q hq, rfl⟩)
theorem e_ch_in {c : Nat} {w : Cond} (h : w ∈ e_ch c) : w ∈ lw_tbl := by
  unfold e_ch at h
  split at h
  · exact e_ch_p h (fun q hq => List.mem_append_left _ hq)
  · exact e_ch_p h (fun q hq => List.mem_append_right _ (List.mem_append_left _ hq))
  · exact e_ch_p h (fun q hq => List.mem_append_right _ (List.mem_append_right _ (List.mem_append_left _ hq)))
  · exact e_ch_p h (fun q hq => List.mem_append_right _ (List.mem_append_right _ (List.mem_append_right _ (List.mem_append_left _ hq))))
  · exact e_ch_p h (fun q hq => List.mem_append_right _ (List.mem_append_right _ (List.mem_append_right _ (List.mem_append_right _ (List.mem_append_left _ hq)))))
  · exact e_ch_p h (fun q hq => List.mem_append_right _ (List.mem_append_right _ (List.mem_append_right _ (List.mem_append_right _ (List.mem_append_right _ (List.mem_append_left _ hq))))))
  · exact e_ch_p h (fun q hq => List.mem_append_right _ (List.mem_append_right _ (List.mem_append_right _ (List.mem_append_right _ (List.mem_append_right _ (List.mem_append_right _ (List.mem_append_left _ hq)))))))
  · exact e_ch_p h (fun q hq => List.mem_append_right _ (List.mem_append_right _ (List.mem_append_right _ (List.mem_append_right _ (List.mem_append_right _ (List.mem_append_right _ (List.mem_append_right _ (hq))))))))
  · exact List.mem_append_right _ (List.mem_append_left _ h)
  · exact List.mem_append_right _ (List.mem_append_right _ (List.mem_append_left _ h))
  · exact List.mem_append_right _ (List.mem_append_right _ (List.mem_append_right _ (List.mem_append_left _ h)))
  · exact List.mem_append_right _ (List.mem_append_right _ (List.mem_append_right _ (List.mem_append_right _ (List.mem_append_left _ h))))
  · exact List.mem_append_right _ (List.mem_append_right _ (List.mem_append_right _ (List.mem_append_right _ (List.mem_append_right _ (List.mem_append_left _ h)))))
  · exact List.mem_append_right _ (List.mem_append_right _ (List.mem_append_right _ (List.mem_append_right _ (List.mem_append_right _ (List.mem_append_right _ (List.mem_append_left _ h))))))
  · exact List.mem_append_right _ (List.mem_append_right _ (List.mem_append_right _ (List.mem_append_right _ (List.mem_append_right _ (List.mem_append_right _ (List.mem_append_right _ (List.mem_append_left _ h)))))))
  · exact List.mem_append_right _ (List.mem_append_right _ (List.mem_append_right _ (List.mem_append_right _ (List.mem_append_right _ (List.mem_append_right _ (List.mem_append_right _ (List.mem_append_right _ (List.mem_append_left _ h))))))))
  · exact List.mem_append_right _ (List.mem_append_right _ (List.mem_append_right _ (List.mem_append_right _ (List.mem_append_right _ (List.mem_append_right _ (List.mem_append_right _ (List.mem_append_right _ (List.mem_append_right _ (List.mem_append_left _ h)))))))))
  · exact List.mem_append_right _ (List.mem_append_right _ (List.mem_append_right _ (List.mem_append_right _ (List.mem_append_right _ (List.mem_append_right _ (List.mem_append_right _ (List.mem_append_right _ (List.mem_append_right _ (List.mem_append_right _ (List.mem_append_left _ h))))))))))
  · exact List.mem_append_right _ (List.mem_append_right _ (List.mem_append_right _ (List.mem_append_right _ (List.mem_append_right _ (List.mem_append_right _ (List.mem_append_right _ (List.mem_append_right _ (List.mem_append_right _ (List.mem_append_right _ (List.mem_append_right _ (h)))))))))))
  · cases h

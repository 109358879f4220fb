theorem at_mem {w : Cond} {L : List Cond} (i : Nat) (h : (L[i]?).any (fun z => decide (z = w)) = true) : w ∈ L := by
  cases hz : L[i]? with
  | none => rw [hz] at h; cases h
  | some z =>
    rw [hz] at h
    have e : z = w := by simpa using h
    subst e
    exact List.mem_of_getElem? hz
theorem wsG_p {w : Cond} (i : Nat) (h : ((k2_sels lw_privs)[i]?).any (fun z => decide (z = w)) = true) (hg : goodWord w = true) : w ∈ wsG := List.mem_filter.mpr ⟨List.mem_append_left _ (at_mem i h), hg⟩
theorem wsG_1 {w : Cond} (i : Nat) (h : (tables_1_1[i]?).any (fun z => decide (z = w)) = true) (hg : goodWord w = true) : w ∈ wsG := List.mem_filter.mpr ⟨List.mem_append_right _ (by unfold tables_1; exact List.mem_append_left _ (at_mem i h)), hg⟩
theorem wsG_2 {w : Cond} (i : Nat) (h : (tables_1_2[i]?).any (fun z => decide (z = w)) = true) (hg : goodWord w = true) : w ∈ wsG := List.mem_filter.mpr ⟨List.mem_append_right _ (by unfold tables_1; exact List.mem_append_right _ (List.mem_append_left _ (at_mem i h))), hg⟩
theorem wsG_3 {w : Cond} (i : Nat) (h : (tables_1_3[i]?).any (fun z => decide (z = w)) = true) (hg : goodWord w = true) : w ∈ wsG := List.mem_filter.mpr ⟨List.mem_append_right _ (by unfold tables_1; exact List.mem_append_right _ (List.mem_append_right _ (List.mem_append_left _ (at_mem i h)))), hg⟩
theorem wsG_4 {w : Cond} (i : Nat) (h : (tables_1_4[i]?).any (fun z => decide (z = w)) = true) (hg : goodWord w = true) : w ∈ wsG := List.mem_filter.mpr ⟨List.mem_append_right _ (by unfold tables_1; exact List.mem_append_right _ (List.mem_append_right _ (List.mem_append_right _ (List.mem_append_left _ (at_mem i h))))), hg⟩
theorem wsG_5 {w : Cond} (i : Nat) (h : (tables_1_5[i]?).any (fun z => decide (z = w)) = true) (hg : goodWord w = true) : w ∈ wsG := List.mem_filter.mpr ⟨List.mem_append_right _ (by unfold tables_1; exact List.mem_append_right _ (List.mem_append_right _ (List.mem_append_right _ (List.mem_append_right _ (List.mem_append_left _ (at_mem i h)))))), hg⟩
theorem wsG_6 {w : Cond} (i : Nat) (h : (tables_1_6[i]?).any (fun z => decide (z = w)) = true) (hg : goodWord w = true) : w ∈ wsG := List.mem_filter.mpr ⟨List.mem_append_right _ (by unfold tables_1; exact List.mem_append_right _ (List.mem_append_right _ (List.mem_append_right _ (List.mem_append_right _ (List.mem_append_right _ (List.mem_append_left _ (at_mem i h))))))), hg⟩
theorem wsG_7 {w : Cond} (i : Nat) (h : (tables_1_7[i]?).any (fun z => decide (z = w)) = true) (hg : goodWord w = true) : w ∈ wsG := List.mem_filter.mpr ⟨List.mem_append_right _ (by unfold tables_1; exact List.mem_append_right _ (List.mem_append_right _ (List.mem_append_right _ (List.mem_append_right _ (List.mem_append_right _ (List.mem_append_right _ (List.mem_append_left _ (at_mem i h)))))))), hg⟩
theorem wsG_8 {w : Cond} (i : Nat) (h : (tables_1_8[i]?).any (fun z => decide (z = w)) = true) (hg : goodWord w = true) : w ∈ wsG := List.mem_filter.mpr ⟨List.mem_append_right _ (by unfold tables_1; exact List.mem_append_right _ (List.mem_append_right _ (List.mem_append_right _ (List.mem_append_right _ (List.mem_append_right _ (List.mem_append_right _ (List.mem_append_right _ (at_mem i h)))))))), hg⟩
theorem inX0 : ∀ w ∈ u_ws RX0 TX0 6, w ∈ wsG := by
  intro w hw
  obtain ⟨k, hk, rfl⟩ := List.mem_map.mp hw
  have hk := List.mem_range.mp hk
  rcases Nat.lt_or_ge k 1 with h0 | h0
  · have e : k = 0 := by omega
    subst e
    exact wsG_2 204 (by decide +kernel) (by decide +kernel)
  rcases Nat.lt_or_ge k 2 with h1 | h1
  · have e : k = 1 := by omega
    subst e
    exact wsG_2 206 (by decide +kernel) (by decide +kernel)
  rcases Nat.lt_or_ge k 3 with h2 | h2
  · have e : k = 2 := by omega
    subst e
    exact wsG_2 208 (by decide +kernel) (by decide +kernel)
  rcases Nat.lt_or_ge k 4 with h3 | h3
  · have e : k = 3 := by omega
    subst e
    exact wsG_2 210 (by decide +kernel) (by decide +kernel)
  rcases Nat.lt_or_ge k 5 with h4 | h4
  · have e : k = 4 := by omega
    subst e
    exact wsG_2 212 (by decide +kernel) (by decide +kernel)
  rcases Nat.lt_or_ge k 6 with h5 | h5
  · have e : k = 5 := by omega
    subst e
    exact wsG_2 214 (by decide +kernel) (by decide +kernel)
  omega
theorem inX1 : ∀ w ∈ u_ws RX1 TX1 11, w ∈ wsG := by
  intro w hw
  obtain ⟨k, hk, rfl⟩ := List.mem_map.mp hw
  have hk := List.mem_range.mp hk
  rcases Nat.lt_or_ge k 1 with h0 | h0
  · have e : k = 0 := by omega
    subst e
    exact wsG_2 47 (by decide +kernel) (by decide +kernel)
  rcases Nat.lt_or_ge k 2 with h1 | h1
  · have e : k = 1 := by omega
    subst e
    exact wsG_2 49 (by decide +kernel) (by decide +kernel)
  rcases Nat.lt_or_ge k 3 with h2 | h2
  · have e : k = 2 := by omega
    subst e
    exact wsG_2 51 (by decide +kernel) (by decide +kernel)
  rcases Nat.lt_or_ge k 4 with h3 | h3
  · have e : k = 3 := by omega
    subst e
    exact wsG_2 53 (by decide +kernel) (by decide +kernel)
  rcases Nat.lt_or_ge k 5 with h4 | h4
  · have e : k = 4 := by omega
    subst e
    exact wsG_2 55 (by decide +kernel) (by decide +kernel)
  rcases Nat.lt_or_ge k 6 with h5 | h5
  · have e : k = 5 := by omega
    subst e
    exact wsG_2 57 (by decide +kernel) (by decide +kernel)
  rcases Nat.lt_or_ge k 7 with h6 | h6
  · have e : k = 6 := by omega
    subst e
    exact wsG_2 59 (by decide +kernel) (by decide +kernel)
  rcases Nat.lt_or_ge k 8 with h7 | h7
  · have e : k = 7 := by omega
    subst e
    exact wsG_2 61 (by decide +kernel) (by decide +kernel)
  rcases Nat.lt_or_ge k 9 with h8 | h8
  · have e : k = 8 := by omega
    subst e
    exact wsG_2 63 (by decide +kernel) (by decide +kernel)
  rcases Nat.lt_or_ge k 10 with h9 | h9
  · have e : k = 9 := by omega
    subst e
    exact wsG_2 65 (by decide +kernel) (by decide +kernel)
  rcases Nat.lt_or_ge k 11 with h10 | h10
  · have e : k = 10 := by omega
    subst e
    exact wsG_2 67 (by decide +kernel) (by decide +kernel)
  omega
theorem inX2 : ∀ w ∈ u_ws RX2 TX2 11, w ∈ wsG := by
  intro w hw
  obtain ⟨k, hk, rfl⟩ := List.mem_map.mp hw
  have hk := List.mem_range.mp hk
  rcases Nat.lt_or_ge k 1 with h0 | h0
  · have e : k = 0 := by omega
    subst e
    exact wsG_1 174 (by decide +kernel) (by decide +kernel)
  rcases Nat.lt_or_ge k 2 with h1 | h1
  · have e : k = 1 := by omega
    subst e
    exact wsG_1 176 (by decide +kernel) (by decide +kernel)
  rcases Nat.lt_or_ge k 3 with h2 | h2
  · have e : k = 2 := by omega
    subst e
    exact wsG_1 178 (by decide +kernel) (by decide +kernel)
  rcases Nat.lt_or_ge k 4 with h3 | h3
  · have e : k = 3 := by omega
    subst e
    exact wsG_1 180 (by decide +kernel) (by decide +kernel)
  rcases Nat.lt_or_ge k 5 with h4 | h4
  · have e : k = 4 := by omega
    subst e
    exact wsG_1 182 (by decide +kernel) (by decide +kernel)
  rcases Nat.lt_or_ge k 6 with h5 | h5
  · have e : k = 5 := by omega
    subst e
    exact wsG_1 184 (by decide +kernel) (by decide +kernel)
  rcases Nat.lt_or_ge k 7 with h6 | h6
  · have e : k = 6 := by omega
    subst e
    exact wsG_1 186 (by decide +kernel) (by decide +kernel)
  rcases Nat.lt_or_ge k 8 with h7 | h7
  · have e : k = 7 := by omega
    subst e
    exact wsG_1 188 (by decide +kernel) (by decide +kernel)
  rcases Nat.lt_or_ge k 9 with h8 | h8
  · have e : k = 8 := by omega
    subst e
    exact wsG_1 190 (by decide +kernel) (by decide +kernel)
  rcases Nat.lt_or_ge k 10 with h9 | h9
  · have e : k = 9 := by omega
    subst e
    exact wsG_1 192 (by decide +kernel) (by decide +kernel)
  rcases Nat.lt_or_ge k 11 with h10 | h10
  · have e : k = 10 := by omega
    subst e
    exact wsG_1 194 (by decide +kernel) (by decide +kernel)
  omega
theorem inX3 : ∀ w ∈ u_ws RX3 TX3 2, w ∈ wsG := by
  intro w hw
  obtain ⟨k, hk, rfl⟩ := List.mem_map.mp hw
  have hk := List.mem_range.mp hk
  rcases Nat.lt_or_ge k 1 with h0 | h0
  · have e : k = 0 := by omega
    subst e
    exact wsG_1 206 (by decide +kernel) (by decide +kernel)
  rcases Nat.lt_or_ge k 2 with h1 | h1
  · have e : k = 1 := by omega
    subst e
    exact wsG_1 208 (by decide +kernel) (by decide +kernel)
  omega
theorem inX4 : ∀ w ∈ u_ws RX4 TX4 8, w ∈ wsG := by
  intro w hw
  obtain ⟨k, hk, rfl⟩ := List.mem_map.mp hw
  have hk := List.mem_range.mp hk
  rcases Nat.lt_or_ge k 1 with h0 | h0
  · have e : k = 0 := by omega
    subst e
    exact wsG_2 85 (by decide +kernel) (by decide +kernel)
  rcases Nat.lt_or_ge k 2 with h1 | h1
  · have e : k = 1 := by omega
    subst e
    exact wsG_2 87 (by decide +kernel) (by decide +kernel)
  rcases Nat.lt_or_ge k 3 with h2 | h2
  · have e : k = 2 := by omega
    subst e
    exact wsG_2 89 (by decide +kernel) (by decide +kernel)
  rcases Nat.lt_or_ge k 4 with h3 | h3
  · have e : k = 3 := by omega
    subst e
    exact wsG_2 91 (by decide +kernel) (by decide +kernel)
  rcases Nat.lt_or_ge k 5 with h4 | h4
  · have e : k = 4 := by omega
    subst e
    exact wsG_2 93 (by decide +kernel) (by decide +kernel)
  rcases Nat.lt_or_ge k 6 with h5 | h5
  · have e : k = 5 := by omega
    subst e
    exact wsG_2 95 (by decide +kernel) (by decide +kernel)
  rcases Nat.lt_or_ge k 7 with h6 | h6
  · have e : k = 6 := by omega
    subst e
    exact wsG_2 97 (by decide +kernel) (by decide +kernel)
  rcases Nat.lt_or_ge k 8 with h7 | h7
  · have e : k = 7 := by omega
    subst e
    exact wsG_2 99 (by decide +kernel) (by decide +kernel)
  omega
theorem inX5 : ∀ w ∈ u_ws RX5 TX5 15, w ∈ wsG := by
  intro w hw
  obtain ⟨k, hk, rfl⟩ := List.mem_map.mp hw
  have hk := List.mem_range.mp hk
  rcases Nat.lt_or_ge k 1 with h0 | h0
  · have e : k = 0 := by omega
    subst e
    exact wsG_2 130 (by decide +kernel) (by decide +kernel)
  rcases Nat.lt_or_ge k 2 with h1 | h1
  · have e : k = 1 := by omega
    subst e
    exact wsG_2 132 (by decide +kernel) (by decide +kernel)
  rcases Nat.lt_or_ge k 3 with h2 | h2
  · have e : k = 2 := by omega
    subst e
    exact wsG_2 134 (by decide +kernel) (by decide +kernel)
  rcases Nat.lt_or_ge k 4 with h3 | h3
  · have e : k = 3 := by omega
    subst e
    exact wsG_2 136 (by decide +kernel) (by decide +kernel)
  rcases Nat.lt_or_ge k 5 with h4 | h4
  · have e : k = 4 := by omega
    subst e
    exact wsG_2 138 (by decide +kernel) (by decide +kernel)
  rcases Nat.lt_or_ge k 6 with h5 | h5
  · have e : k = 5 := by omega
    subst e
    exact wsG_2 140 (by decide +kernel) (by decide +kernel)
  rcases Nat.lt_or_ge k 7 with h6 | h6
  · have e : k = 6 := by omega
    subst e
    exact wsG_2 142 (by decide +kernel) (by decide +kernel)
  rcases Nat.lt_or_ge k 8 with h7 | h7
  · have e : k = 7 := by omega
    subst e
    exact wsG_2 144 (by decide +kernel) (by decide +kernel)
  rcases Nat.lt_or_ge k 9 with h8 | h8
  · have e : k = 8 := by omega
    subst e
    exact wsG_2 146 (by decide +kernel) (by decide +kernel)
  rcases Nat.lt_or_ge k 10 with h9 | h9
  · have e : k = 9 := by omega
    subst e
    exact wsG_2 148 (by decide +kernel) (by decide +kernel)
  rcases Nat.lt_or_ge k 11 with h10 | h10
  · have e : k = 10 := by omega
    subst e
    exact wsG_2 150 (by decide +kernel) (by decide +kernel)
  rcases Nat.lt_or_ge k 12 with h11 | h11
  · have e : k = 11 := by omega
    subst e
    exact wsG_2 152 (by decide +kernel) (by decide +kernel)
  rcases Nat.lt_or_ge k 13 with h12 | h12
  · have e : k = 12 := by omega
    subst e
    exact wsG_2 154 (by decide +kernel) (by decide +kernel)
  rcases Nat.lt_or_ge k 14 with h13 | h13
  · have e : k = 13 := by omega
    subst e
    exact wsG_2 156 (by decide +kernel) (by decide +kernel)
  rcases Nat.lt_or_ge k 15 with h14 | h14
  · have e : k = 14 := by omega
    subst e
    exact wsG_2 158 (by decide +kernel) (by decide +kernel)
  omega
theorem inX6 : ∀ w ∈ u_ws RX6 TX6 6, w ∈ wsG := by
  intro w hw
  obtain ⟨k, hk, rfl⟩ := List.mem_map.mp hw
  have hk := List.mem_range.mp hk
  rcases Nat.lt_or_ge k 1 with h0 | h0
  · have e : k = 0 := by omega
    subst e
    exact wsG_1 228 (by decide +kernel) (by decide +kernel)
  rcases Nat.lt_or_ge k 2 with h1 | h1
  · have e : k = 1 := by omega
    subst e
    exact wsG_1 230 (by decide +kernel) (by decide +kernel)
  rcases Nat.lt_or_ge k 3 with h2 | h2
  · have e : k = 2 := by omega
    subst e
    exact wsG_1 232 (by decide +kernel) (by decide +kernel)
  rcases Nat.lt_or_ge k 4 with h3 | h3
  · have e : k = 3 := by omega
    subst e
    exact wsG_1 234 (by decide +kernel) (by decide +kernel)
  rcases Nat.lt_or_ge k 5 with h4 | h4
  · have e : k = 4 := by omega
    subst e
    exact wsG_1 236 (by decide +kernel) (by decide +kernel)
  rcases Nat.lt_or_ge k 6 with h5 | h5
  · have e : k = 5 := by omega
    subst e
    exact wsG_1 238 (by decide +kernel) (by decide +kernel)
  omega
theorem inX7 : ∀ w ∈ u_ws RX7 TX7 4, w ∈ wsG := by
  intro w hw
  obtain ⟨k, hk, rfl⟩ := List.mem_map.mp hw
  have hk := List.mem_range.mp hk
  rcases Nat.lt_or_ge k 1 with h0 | h0
  · have e : k = 0 := by omega
    subst e
    exact wsG_2 11 (by decide +kernel) (by decide +kernel)
  rcases Nat.lt_or_ge k 2 with h1 | h1
  · have e : k = 1 := by omega
    subst e
    exact wsG_2 13 (by decide +kernel) (by decide +kernel)
  rcases Nat.lt_or_ge k 3 with h2 | h2
  · have e : k = 2 := by omega
    subst e
    exact wsG_2 15 (by decide +kernel) (by decide +kernel)
  rcases Nat.lt_or_ge k 4 with h3 | h3
  · have e : k = 3 := by omega
    subst e
    exact wsG_2 17 (by decide +kernel) (by decide +kernel)
  omega
theorem inX8 : ∀ w ∈ u_ws RX8 TX8 7, w ∈ wsG := by
  intro w hw
  obtain ⟨k, hk, rfl⟩ := List.mem_map.mp hw
  have hk := List.mem_range.mp hk
  rcases Nat.lt_or_ge k 1 with h0 | h0
  · have e : k = 0 := by omega
    subst e
    exact wsG_2 176 (by decide +kernel) (by decide +kernel)
  rcases Nat.lt_or_ge k 2 with h1 | h1
  · have e : k = 1 := by omega
    subst e
    exact wsG_2 178 (by decide +kernel) (by decide +kernel)
  rcases Nat.lt_or_ge k 3 with h2 | h2
  · have e : k = 2 := by omega
    subst e
    exact wsG_2 180 (by decide +kernel) (by decide +kernel)
  rcases Nat.lt_or_ge k 4 with h3 | h3
  · have e : k = 3 := by omega
    subst e
    exact wsG_2 182 (by decide +kernel) (by decide +kernel)
  rcases Nat.lt_or_ge k 5 with h4 | h4
  · have e : k = 4 := by omega
    subst e
    exact wsG_2 184 (by decide +kernel) (by decide +kernel)
  rcases Nat.lt_or_ge k 6 with h5 | h5
  · have e : k = 5 := by omega
    subst e
    exact wsG_2 186 (by decide +kernel) (by decide +kernel)
  rcases Nat.lt_or_ge k 7 with h6 | h6
  · have e : k = 6 := by omega
    subst e
    exact wsG_2 188 (by decide +kernel) (by decide +kernel)
  omega
theorem inX9 : ∀ w ∈ u_ws RX9 TX9 11, w ∈ wsG := by
  intro w hw
  obtain ⟨k, hk, rfl⟩ := List.mem_map.mp hw
  have hk := List.mem_range.mp hk
  rcases Nat.lt_or_ge k 1 with h0 | h0
  · have e : k = 0 := by omega
    subst e
    exact wsG_1 112 (by decide +kernel) (by decide +kernel)
  rcases Nat.lt_or_ge k 2 with h1 | h1
  · have e : k = 1 := by omega
    subst e
    exact wsG_1 114 (by decide +kernel) (by decide +kernel)
  rcases Nat.lt_or_ge k 3 with h2 | h2
  · have e : k = 2 := by omega
    subst e
    exact wsG_1 116 (by decide +kernel) (by decide +kernel)
  rcases Nat.lt_or_ge k 4 with h3 | h3
  · have e : k = 3 := by omega
    subst e
    exact wsG_1 118 (by decide +kernel) (by decide +kernel)
  rcases Nat.lt_or_ge k 5 with h4 | h4
  · have e : k = 4 := by omega
    subst e
    exact wsG_1 120 (by decide +kernel) (by decide +kernel)
  rcases Nat.lt_or_ge k 6 with h5 | h5
  · have e : k = 5 := by omega
    subst e
    exact wsG_1 122 (by decide +kernel) (by decide +kernel)
  rcases Nat.lt_or_ge k 7 with h6 | h6
  · have e : k = 6 := by omega
    subst e
    exact wsG_1 124 (by decide +kernel) (by decide +kernel)
  rcases Nat.lt_or_ge k 8 with h7 | h7
  · have e : k = 7 := by omega
    subst e
    exact wsG_1 126 (by decide +kernel) (by decide +kernel)
  rcases Nat.lt_or_ge k 9 with h8 | h8
  · have e : k = 8 := by omega
    subst e
    exact wsG_1 128 (by decide +kernel) (by decide +kernel)
  rcases Nat.lt_or_ge k 10 with h9 | h9
  · have e : k = 9 := by omega
    subst e
    exact wsG_1 130 (by decide +kernel) (by decide +kernel)
  rcases Nat.lt_or_ge k 11 with h10 | h10
  · have e : k = 10 := by omega
    subst e
    exact wsG_1 132 (by decide +kernel) (by decide +kernel)
  omega
theorem inX10 : ∀ w ∈ u_ws RX10 TX10 12, w ∈ wsG := by
  intro w hw
  obtain ⟨k, hk, rfl⟩ := List.mem_map.mp hw
  have hk := List.mem_range.mp hk
  rcases Nat.lt_or_ge k 1 with h0 | h0
  · have e : k = 0 := by omega
    subst e
    exact wsG_2 239 (by decide +kernel) (by decide +kernel)
  rcases Nat.lt_or_ge k 2 with h1 | h1
  · have e : k = 1 := by omega
    subst e
    exact wsG_3 1 (by decide +kernel) (by decide +kernel)
  rcases Nat.lt_or_ge k 3 with h2 | h2
  · have e : k = 2 := by omega
    subst e
    exact wsG_3 3 (by decide +kernel) (by decide +kernel)
  rcases Nat.lt_or_ge k 4 with h3 | h3
  · have e : k = 3 := by omega
    subst e
    exact wsG_3 5 (by decide +kernel) (by decide +kernel)
  rcases Nat.lt_or_ge k 5 with h4 | h4
  · have e : k = 4 := by omega
    subst e
    exact wsG_3 7 (by decide +kernel) (by decide +kernel)
  rcases Nat.lt_or_ge k 6 with h5 | h5
  · have e : k = 5 := by omega
    subst e
    exact wsG_3 9 (by decide +kernel) (by decide +kernel)
  rcases Nat.lt_or_ge k 7 with h6 | h6
  · have e : k = 6 := by omega
    subst e
    exact wsG_3 11 (by decide +kernel) (by decide +kernel)
  rcases Nat.lt_or_ge k 8 with h7 | h7
  · have e : k = 7 := by omega
    subst e
    exact wsG_3 13 (by decide +kernel) (by decide +kernel)
  rcases Nat.lt_or_ge k 9 with h8 | h8
  · have e : k = 8 := by omega
    subst e
    exact wsG_3 15 (by decide +kernel) (by decide +kernel)
  rcases Nat.lt_or_ge k 10 with h9 | h9
  · have e : k = 9 := by omega
    subst e
    exact wsG_3 17 (by decide +kernel) (by decide +kernel)
  rcases Nat.lt_or_ge k 11 with h10 | h10
  · have e : k = 10 := by omega
    subst e
    exact wsG_3 19 (by decide +kernel) (by decide +kernel)
  rcases Nat.lt_or_ge k 12 with h11 | h11
  · have e : k = 11 := by omega
    subst e
    exact wsG_3 21 (by decide +kernel) (by decide +kernel)
  omega
theorem inX11 : ∀ w ∈ u_ws RX11 TX11 17, w ∈ wsG := by
  intro w hw
  obtain ⟨k, hk, rfl⟩ := List.mem_map.mp hw
  have hk := List.mem_range.mp hk
  rcases Nat.lt_or_ge k 1 with h0 | h0
  · have e : k = 0 := by omega
    subst e
    exact wsG_3 41 (by decide +kernel) (by decide +kernel)
  rcases Nat.lt_or_ge k 2 with h1 | h1
  · have e : k = 1 := by omega
    subst e
    exact wsG_3 43 (by decide +kernel) (by decide +kernel)
  rcases Nat.lt_or_ge k 3 with h2 | h2
  · have e : k = 2 := by omega
    subst e
    exact wsG_3 45 (by decide +kernel) (by decide +kernel)
  rcases Nat.lt_or_ge k 4 with h3 | h3
  · have e : k = 3 := by omega
    subst e
    exact wsG_3 47 (by decide +kernel) (by decide +kernel)
  rcases Nat.lt_or_ge k 5 with h4 | h4
  · have e : k = 4 := by omega
    subst e
    exact wsG_3 49 (by decide +kernel) (by decide +kernel)
  rcases Nat.lt_or_ge k 6 with h5 | h5
  · have e : k = 5 := by omega
    subst e
    exact wsG_3 51 (by decide +kernel) (by decide +kernel)
  rcases Nat.lt_or_ge k 7 with h6 | h6
  · have e : k = 6 := by omega
    subst e
    exact wsG_3 53 (by decide +kernel) (by decide +kernel)
  rcases Nat.lt_or_ge k 8 with h7 | h7
  · have e : k = 7 := by omega
    subst e
    exact wsG_3 55 (by decide +kernel) (by decide +kernel)
  rcases Nat.lt_or_ge k 9 with h8 | h8
  · have e : k = 8 := by omega
    subst e
    exact wsG_3 57 (by decide +kernel) (by decide +kernel)
  rcases Nat.lt_or_ge k 10 with h9 | h9
  · have e : k = 9 := by omega
    subst e
    exact wsG_3 59 (by decide +kernel) (by decide +kernel)
  rcases Nat.lt_or_ge k 11 with h10 | h10
  · have e : k = 10 := by omega
    subst e
    exact wsG_3 61 (by decide +kernel) (by decide +kernel)
  rcases Nat.lt_or_ge k 12 with h11 | h11
  · have e : k = 11 := by omega
    subst e
    exact wsG_3 63 (by decide +kernel) (by decide +kernel)
  rcases Nat.lt_or_ge k 13 with h12 | h12
  · have e : k = 12 := by omega
    subst e
    exact wsG_3 65 (by decide +kernel) (by decide +kernel)
  rcases Nat.lt_or_ge k 14 with h13 | h13
  · have e : k = 13 := by omega
    subst e
    exact wsG_3 67 (by decide +kernel) (by decide +kernel)
  rcases Nat.lt_or_ge k 15 with h14 | h14
  · have e : k = 14 := by omega
    subst e
    exact wsG_3 69 (by decide +kernel) (by decide +kernel)
  rcases Nat.lt_or_ge k 16 with h15 | h15
  · have e : k = 15 := by omega
    subst e
    exact wsG_3 71 (by decide +kernel) (by decide +kernel)
  rcases Nat.lt_or_ge k 17 with h16 | h16
  · have e : k = 16 := by omega
    subst e
    exact wsG_3 73 (by decide +kernel) (by decide +kernel)
  omega
theorem inX12 : ∀ w ∈ u_ws RX12 TX12 81, w ∈ wsG := by
  intro w hw
  obtain ⟨k, hk, rfl⟩ := List.mem_map.mp hw
  have hk := List.mem_range.mp hk
  rcases Nat.lt_or_ge k 1 with h0 | h0
  · have e : k = 0 := by omega
    subst e
    exact wsG_6 145 (by decide +kernel) (by decide +kernel)
  rcases Nat.lt_or_ge k 2 with h1 | h1
  · have e : k = 1 := by omega
    subst e
    exact wsG_6 147 (by decide +kernel) (by decide +kernel)
  rcases Nat.lt_or_ge k 3 with h2 | h2
  · have e : k = 2 := by omega
    subst e
    exact wsG_6 149 (by decide +kernel) (by decide +kernel)
  rcases Nat.lt_or_ge k 4 with h3 | h3
  · have e : k = 3 := by omega
    subst e
    exact wsG_6 151 (by decide +kernel) (by decide +kernel)
  rcases Nat.lt_or_ge k 5 with h4 | h4
  · have e : k = 4 := by omega
    subst e
    exact wsG_6 153 (by decide +kernel) (by decide +kernel)
  rcases Nat.lt_or_ge k 6 with h5 | h5
  · have e : k = 5 := by omega
    subst e
    exact wsG_6 155 (by decide +kernel) (by decide +kernel)
  rcases Nat.lt_or_ge k 7 with h6 | h6
  · have e : k = 6 := by omega
    subst e
    exact wsG_6 157 (by decide +kernel) (by decide +kernel)
  rcases Nat.lt_or_ge k 8 with h7 | h7
  · have e : k = 7 := by omega
    subst e
    exact wsG_6 159 (by decide +kernel) (by decide +kernel)
  rcases Nat.lt_or_ge k 9 with h8 | h8
  · have e : k = 8 := by omega
    subst e
    exact wsG_6 161 (by decide +kernel) (by decide +kernel)
  rcases Nat.lt_or_ge k 10 with h9 | h9
  · have e : k = 9 := by omega
    subst e
    exact wsG_6 163 (by decide +kernel) (by decide +kernel)
  rcases Nat.lt_or_ge k 11 with h10 | h10
  · have e : k = 10 := by omega
    subst e
    exact wsG_6 165 (by decide +kernel) (by decide +kernel)
  rcases Nat.lt_or_ge k 12 with h11 | h11
  · have e : k = 11 := by omega
    subst e
    exact wsG_6 167 (by decide +kernel) (by decide +kernel)
  rcases Nat.lt_or_ge k 13 with h12 | h12
  · have e : k = 12 := by omega
    subst e
    exact wsG_6 169 (by decide +kernel) (by decide +kernel)
  rcases Nat.lt_or_ge k 14 with h13 | h13
  · have e : k = 13 := by omega
    subst e
    exact wsG_6 171 (by decide +kernel) (by decide +kernel)
  rcases Nat.lt_or_ge k 15 with h14 | h14
  · have e : k = 14 := by omega
    subst e
    exact wsG_6 173 (by decide +kernel) (by decide +kernel)
  rcases Nat.lt_or_ge k 16 with h15 | h15
  · have e : k = 15 := by omega
    subst e
    exact wsG_6 175 (by decide +kernel) (by decide +kernel)
  rcases Nat.lt_or_ge k 17 with h16 | h16
  · have e : k = 16 := by omega
    subst e
    exact wsG_6 177 (by decide +kernel) (by decide +kernel)
  rcases Nat.lt_or_ge k 18 with h17 | h17
  · have e : k = 17 := by omega
    subst e
    exact wsG_6 179 (by decide +kernel) (by decide +kernel)
  rcases Nat.lt_or_ge k 19 with h18 | h18
  · have e : k = 18 := by omega
    subst e
    exact wsG_6 181 (by decide +kernel) (by decide +kernel)
  rcases Nat.lt_or_ge k 20 with h19 | h19
  · have e : k = 19 := by omega
    subst e
    exact wsG_6 183 (by decide +kernel) (by decide +kernel)
  rcases Nat.lt_or_ge k 21 with h20 | h20
  · have e : k = 20 := by omega
    subst e
    exact wsG_6 185 (by decide +kernel) (by decide +kernel)
  rcases Nat.lt_or_ge k 22 with h21 | h21
  · have e : k = 21 := by omega
    subst e
    exact wsG_6 187 (by decide +kernel) (by decide +kernel)
  rcases Nat.lt_or_ge k 23 with h22 | h22
  · have e : k = 22 := by omega
    subst e
    exact wsG_6 189 (by decide +kernel) (by decide +kernel)
  rcases Nat.lt_or_ge k 24 with h23 | h23
  · have e : k = 23 := by omega
    subst e
    exact wsG_6 191 (by decide +kernel) (by decide +kernel)
  rcases Nat.lt_or_ge k 25 with h24 | h24
  · have e : k = 24 := by omega
    subst e
    exact wsG_6 193 (by decide +kernel) (by decide +kernel)
  rcases Nat.lt_or_ge k 26 with h25 | h25
  · have e : k = 25 := by omega
    subst e
    exact wsG_6 195 (by decide +kernel) (by decide +kernel)
  rcases Nat.lt_or_ge k 27 with h26 | h26
  · have e : k = 26 := by omega
    subst e
    exact wsG_6 197 (by decide +kernel) (by decide +kernel)
  rcases Nat.lt_or_ge k 28 with h27 | h27
  · have e : k = 27 := by omega
    subst e
    exact wsG_6 199 (by decide +kernel) (by decide +kernel)
  rcases Nat.lt_or_ge k 29 with h28 | h28
  · have e : k = 28 := by omega
    subst e
    exact wsG_6 201 (by decide +kernel) (by decide +kernel)
  rcases Nat.lt_or_ge k 30 with h29 | h29
  · have e : k = 29 := by omega
    subst e
    exact wsG_6 203 (by decide +kernel) (by decide +kernel)
  rcases Nat.lt_or_ge k 31 with h30 | h30
  · have e : k = 30 := by omega
    subst e
    exact wsG_6 205 (by decide +kernel) (by decide +kernel)
  rcases Nat.lt_or_ge k 32 with h31 | h31
  · have e : k = 31 := by omega
    subst e
    exact wsG_6 207 (by decide +kernel) (by decide +kernel)
  rcases Nat.lt_or_ge k 33 with h32 | h32
  · have e : k = 32 := by omega
    subst e
    exact wsG_6 209 (by decide +kernel) (by decide +kernel)
  rcases Nat.lt_or_ge k 34 with h33 | h33
  · have e : k = 33 := by omega
    subst e
    exact wsG_6 211 (by decide +kernel) (by decide +kernel)
  rcases Nat.lt_or_ge k 35 with h34 | h34
  · have e : k = 34 := by omega
    subst e
    exact wsG_6 213 (by decide +kernel) (by decide +kernel)
  rcases Nat.lt_or_ge k 36 with h35 | h35
  · have e : k = 35 := by omega
    subst e
    exact wsG_6 215 (by decide +kernel) (by decide +kernel)
  rcases Nat.lt_or_ge k 37 with h36 | h36
  · have e : k = 36 := by omega
    subst e
    exact wsG_6 217 (by decide +kernel) (by decide +kernel)
  rcases Nat.lt_or_ge k 38 with h37 | h37
  · have e : k = 37 := by omega
    subst e
    exact wsG_6 219 (by decide +kernel) (by decide +kernel)
  rcases Nat.lt_or_ge k 39 with h38 | h38
  · have e : k = 38 := by omega
    subst e
    exact wsG_6 221 (by decide +kernel) (by decide +kernel)
  rcases Nat.lt_or_ge k 40 with h39 | h39
  · have e : k = 39 := by omega
    subst e
    exact wsG_6 223 (by decide +kernel) (by decide +kernel)
  rcases Nat.lt_or_ge k 41 with h40 | h40
  · have e : k = 40 := by omega
    subst e
    exact wsG_6 225 (by decide +kernel) (by decide +kernel)
  rcases Nat.lt_or_ge k 42 with h41 | h41
  · have e : k = 41 := by omega
    subst e
    exact wsG_6 227 (by decide +kernel) (by decide +kernel)
  rcases Nat.lt_or_ge k 43 with h42 | h42
  · have e : k = 42 := by omega
    subst e
    exact wsG_6 229 (by decide +kernel) (by decide +kernel)
  rcases Nat.lt_or_ge k 44 with h43 | h43
  · have e : k = 43 := by omega
    subst e
    exact wsG_6 231 (by decide +kernel) (by decide +kernel)
  rcases Nat.lt_or_ge k 45 with h44 | h44
  · have e : k = 44 := by omega
    subst e
    exact wsG_6 233 (by decide +kernel) (by decide +kernel)
  rcases Nat.lt_or_ge k 46 with h45 | h45
  · have e : k = 45 := by omega
    subst e
    exact wsG_6 235 (by decide +kernel) (by decide +kernel)
  rcases Nat.lt_or_ge k 47 with h46 | h46
  · have e : k = 46 := by omega
    subst e
    exact wsG_6 237 (by decide +kernel) (by decide +kernel)
  rcases Nat.lt_or_ge k 48 with h47 | h47
  · have e : k = 47 := by omega
    subst e
    exact wsG_6 239 (by decide +kernel) (by decide +kernel)
  rcases Nat.lt_or_ge k 49 with h48 | h48
  · have e : k = 48 := by omega
    subst e
    exact wsG_7 1 (by decide +kernel) (by decide +kernel)
  rcases Nat.lt_or_ge k 50 with h49 | h49
  · have e : k = 49 := by omega
    subst e
    exact wsG_7 3 (by decide +kernel) (by decide +kernel)
  rcases Nat.lt_or_ge k 51 with h50 | h50
  · have e : k = 50 := by omega
    subst e
    exact wsG_7 5 (by decide +kernel) (by decide +kernel)
  rcases Nat.lt_or_ge k 52 with h51 | h51
  · have e : k = 51 := by omega
    subst e
    exact wsG_7 7 (by decide +kernel) (by decide +kernel)
  rcases Nat.lt_or_ge k 53 with h52 | h52
  · have e : k = 52 := by omega
    subst e
    exact wsG_7 9 (by decide +kernel) (by decide +kernel)
  rcases Nat.lt_or_ge k 54 with h53 | h53
  · have e : k = 53 := by omega
    subst e
    exact wsG_7 11 (by decide +kernel) (by decide +kernel)
  rcases Nat.lt_or_ge k 55 with h54 | h54
  · have e : k = 54 := by omega
    subst e
    exact wsG_7 13 (by decide +kernel) (by decide +kernel)
  rcases Nat.lt_or_ge k 56 with h55 | h55
  · have e : k = 55 := by omega
    subst e
    exact wsG_7 15 (by decide +kernel) (by decide +kernel)
  rcases Nat.lt_or_ge k 57 with h56 | h56
  · have e : k = 56 := by omega
    subst e
    exact wsG_7 17 (by decide +kernel) (by decide +kernel)
  rcases Nat.lt_or_ge k 58 with h57 | h57
  · have e : k = 57 := by omega
    subst e
    exact wsG_7 19 (by decide +kernel) (by decide +kernel)
  rcases Nat.lt_or_ge k 59 with h58 | h58
  · have e : k = 58 := by omega
    subst e
    exact wsG_7 21 (by decide +kernel) (by decide +kernel)
  rcases Nat.lt_or_ge k 60 with h59 | h59
  · have e : k = 59 := by omega
    subst e
    exact wsG_7 23 (by decide +kernel) (by decide +kernel)
  rcases Nat.lt_or_ge k 61 with h60 | h60
  · have e : k = 60 := by omega
    subst e
    exact wsG_7 25 (by decide +kernel) (by decide +kernel)
  rcases Nat.lt_or_ge k 62 with h61 | h61
  · have e : k = 61 := by omega
    subst e
    exact wsG_7 27 (by decide +kernel) (by decide +kernel)
  rcases Nat.lt_or_ge k 63 with h62 | h62
  · have e : k = 62 := by omega
    subst e
    exact wsG_7 29 (by decide +kernel) (by decide +kernel)
  rcases Nat.lt_or_ge k 64 with h63 | h63
  · have e : k = 63 := by omega
    subst e
    exact wsG_7 31 (by decide +kernel) (by decide +kernel)
  rcases Nat.lt_or_ge k 65 with h64 | h64
  · have e : k = 64 := by omega
    subst e
    exact wsG_7 33 (by decide +kernel) (by decide +kernel)
  rcases Nat.lt_or_ge k 66 with h65 | h65
  · have e : k = 65 := by omega
    subst e
    exact wsG_7 35 (by decide +kernel) (by decide +kernel)
  rcases Nat.lt_or_ge k 67 with h66 | h66
  · have e : k = 66 := by omega
    subst e
    exact wsG_7 37 (by decide +kernel) (by decide +kernel)
  rcases Nat.lt_or_ge k 68 with h67 | h67
  · have e : k = 67 := by omega
    subst e
    exact wsG_7 39 (by decide +kernel) (by decide +kernel)
  rcases Nat.lt_or_ge k 69 with h68 | h68
  · have e : k = 68 := by omega
    subst e
    exact wsG_7 41 (by decide +kernel) (by decide +kernel)
  rcases Nat.lt_or_ge k 70 with h69 | h69
  · have e : k = 69 := by omega
    subst e
    exact wsG_7 43 (by decide +kernel) (by decide +kernel)
  rcases Nat.lt_or_ge k 71 with h70 | h70
  · have e : k = 70 := by omega
    subst e
    exact wsG_7 45 (by decide +kernel) (by decide +kernel)
  rcases Nat.lt_or_ge k 72 with h71 | h71
  · have e : k = 71 := by omega
    subst e
    exact wsG_7 47 (by decide +kernel) (by decide +kernel)
  rcases Nat.lt_or_ge k 73 with h72 | h72
  · have e : k = 72 := by omega
    subst e
    exact wsG_7 49 (by decide +kernel) (by decide +kernel)
  rcases Nat.lt_or_ge k 74 with h73 | h73
  · have e : k = 73 := by omega
    subst e
    exact wsG_7 51 (by decide +kernel) (by decide +kernel)
  rcases Nat.lt_or_ge k 75 with h74 | h74
  · have e : k = 74 := by omega
    subst e
    exact wsG_7 53 (by decide +kernel) (by decide +kernel)
  rcases Nat.lt_or_ge k 76 with h75 | h75
  · have e : k = 75 := by omega
    subst e
    exact wsG_7 55 (by decide +kernel) (by decide +kernel)
  rcases Nat.lt_or_ge k 77 with h76 | h76
  · have e : k = 76 := by omega
    subst e
    exact wsG_7 57 (by decide +kernel) (by decide +kernel)
  rcases Nat.lt_or_ge k 78 with h77 | h77
  · have e : k = 77 := by omega
    subst e
    exact wsG_7 59 (by decide +kernel) (by decide +kernel)
  rcases Nat.lt_or_ge k 79 with h78 | h78
  · have e : k = 78 := by omega
    subst e
    exact wsG_7 61 (by decide +kernel) (by decide +kernel)
  rcases Nat.lt_or_ge k 80 with h79 | h79
  · have e : k = 79 := by omega
    subst e
    exact wsG_7 63 (by decide +kernel) (by decide +kernel)
  rcases Nat.lt_or_ge k 81 with h80 | h80
  · have e : k = 80 := by omega
    subst e
    exact wsG_7 65 (by decide +kernel) (by decide +kernel)
  omega
theorem gf_X9_7 : Gf RX9 7 9 0 (.array .byte) true := ⟨RX9, TX9, 11, tyX9, rfl, by decide, wsG_1 91 (by decide +kernel) (by decide +kernel), inX9, tyX9_ok, nmX9, rfl, rfl⟩
theorem gf_X9_19 : Gf RX9 19 9 1 (.array .long) true := ⟨RX9, TX9, 11, tyX9, rfl, by decide, wsG_1 92 (by decide +kernel) (by decide +kernel), inX9, tyX9_ok, nmX9, rfl, rfl⟩
theorem gf_X9_47 : Gf RX9 47 9 2 .int false := ⟨RX9, TX9, 11, tyX9, rfl, by decide, wsG_1 93 (by decide +kernel) (by decide +kernel), inX9, tyX9_ok, nmX9, rfl, rfl⟩
theorem gf_X9_15 : Gf RX9 15 9 3 (.object "java/lang/String") false := ⟨RX9, TX9, 11, tyX9, rfl, by decide, wsG_1 94 (by decide +kernel) (by decide +kernel), inX9, tyX9_ok, nmX9, rfl, rfl⟩
theorem gf_X9_50 : Gf RX9 50 9 4 .int false := ⟨RX9, TX9, 11, tyX9, rfl, by decide, wsG_1 95 (by decide +kernel) (by decide +kernel), inX9, tyX9_ok, nmX9, rfl, rfl⟩
theorem gf_X3_24 : Gf RX3 24 9 5 .int false := ⟨RX9, TX9, 11, tyX9, rfl, by decide, wsG_1 96 (by decide +kernel) (by decide +kernel), inX9, tyX9_ok, nmX9, rfl, rfl⟩
theorem gf_X7_32 : Gf RX7 32 9 5 .int false := ⟨RX9, TX9, 11, tyX9, rfl, by decide, wsG_1 97 (by decide +kernel) (by decide +kernel), inX9, tyX9_ok, nmX9, rfl, rfl⟩
theorem gf_X9_67 : Gf RX9 67 9 5 .int false := ⟨RX9, TX9, 11, tyX9, rfl, by decide, wsG_1 98 (by decide +kernel) (by decide +kernel), inX9, tyX9_ok, nmX9, rfl, rfl⟩
theorem gf_X9_64 : Gf RX9 64 9 6 .int false := ⟨RX9, TX9, 11, tyX9, rfl, by decide, wsG_1 99 (by decide +kernel) (by decide +kernel), inX9, tyX9_ok, nmX9, rfl, rfl⟩
theorem gf_X3_82 : Gf RX3 82 9 6 .int false := ⟨RX9, TX9, 11, tyX9, rfl, by decide, wsG_1 100 (by decide +kernel) (by decide +kernel), inX9, tyX9_ok, nmX9, rfl, rfl⟩
theorem gf_X7_95 : Gf RX7 95 9 6 .int false := ⟨RX9, TX9, 11, tyX9, rfl, by decide, wsG_1 101 (by decide +kernel) (by decide +kernel), inX9, tyX9_ok, nmX9, rfl, rfl⟩
theorem gf_X3_85 : Gf RX3 85 9 7 .int false := ⟨RX9, TX9, 11, tyX9, rfl, by decide, wsG_1 102 (by decide +kernel) (by decide +kernel), inX9, tyX9_ok, nmX9, rfl, rfl⟩
theorem gf_X9_87 : Gf RX9 87 9 7 .int false := ⟨RX9, TX9, 11, tyX9, rfl, by decide, wsG_1 103 (by decide +kernel) (by decide +kernel), inX9, tyX9_ok, nmX9, rfl, rfl⟩
theorem gf_X7_79 : Gf RX7 79 9 7 .int false := ⟨RX9, TX9, 11, tyX9, rfl, by decide, wsG_1 104 (by decide +kernel) (by decide +kernel), inX9, tyX9_ok, nmX9, rfl, rfl⟩
theorem gf_X9_80 : Gf RX9 80 9 8 .long false := ⟨RX9, TX9, 11, tyX9, rfl, by decide, wsG_1 105 (by decide +kernel) (by decide +kernel), inX9, tyX9_ok, nmX9, rfl, rfl⟩
theorem gf_X3_92 : Gf RX3 92 9 8 .long false := ⟨RX9, TX9, 11, tyX9, rfl, by decide, wsG_1 106 (by decide +kernel) (by decide +kernel), inX9, tyX9_ok, nmX9, rfl, rfl⟩
theorem gf_X7_85 : Gf RX7 85 9 8 .long false := ⟨RX9, TX9, 11, tyX9, rfl, by decide, wsG_1 107 (by decide +kernel) (by decide +kernel), inX9, tyX9_ok, nmX9, rfl, rfl⟩
theorem gf_X9_53 : Gf RX9 53 9 9 .int false := ⟨RX9, TX9, 11, tyX9, rfl, by decide, wsG_1 108 (by decide +kernel) (by decide +kernel), inX9, tyX9_ok, nmX9, rfl, rfl⟩
theorem gf_X11_325 : Gf RX11 325 9 9 .int false := ⟨RX9, TX9, 11, tyX9, rfl, by decide, wsG_1 109 (by decide +kernel) (by decide +kernel), inX9, tyX9_ok, nmX9, rfl, rfl⟩
theorem gf_X9_58 : Gf RX9 58 9 10 .int false := ⟨RX9, TX9, 11, tyX9, rfl, by decide, wsG_1 110 (by decide +kernel) (by decide +kernel), inX9, tyX9_ok, nmX9, rfl, rfl⟩
theorem gf_X11_328 : Gf RX11 328 9 10 .int false := ⟨RX9, TX9, 11, tyX9, rfl, by decide, wsG_1 111 (by decide +kernel) (by decide +kernel), inX9, tyX9_ok, nmX9, rfl, rfl⟩
theorem gf_X2_40 : Gf RX2 40 2 0 .int false := ⟨RX2, TX2, 11, tyX2, rfl, by decide, wsG_1 143 (by decide +kernel) (by decide +kernel), inX2, tyX2_ok, nmX2, rfl, rfl⟩
theorem gf_X0_35 : Gf RX0 35 2 0 .int false := ⟨RX2, TX2, 11, tyX2, rfl, by decide, wsG_1 144 (by decide +kernel) (by decide +kernel), inX2, tyX2_ok, nmX2, rfl, rfl⟩
theorem gf_X3_30 : Gf RX3 30 2 0 .int false := ⟨RX2, TX2, 11, tyX2, rfl, by decide, wsG_1 145 (by decide +kernel) (by decide +kernel), inX2, tyX2_ok, nmX2, rfl, rfl⟩
theorem gf_X11_144 : Gf RX11 144 2 0 .int false := ⟨RX2, TX2, 11, tyX2, rfl, by decide, wsG_1 146 (by decide +kernel) (by decide +kernel), inX2, tyX2_ok, nmX2, rfl, rfl⟩
theorem gf_X4_81 : Gf RX4 81 2 0 .int false := ⟨RX2, TX2, 11, tyX2, rfl, by decide, wsG_1 147 (by decide +kernel) (by decide +kernel), inX2, tyX2_ok, nmX2, rfl, rfl⟩
theorem gf_X8_140 : Gf RX8 140 2 0 .int false := ⟨RX2, TX2, 11, tyX2, rfl, by decide, wsG_1 148 (by decide +kernel) (by decide +kernel), inX2, tyX2_ok, nmX2, rfl, rfl⟩
theorem gf_X2_44 : Gf RX2 44 2 1 .int false := ⟨RX2, TX2, 11, tyX2, rfl, by decide, wsG_1 149 (by decide +kernel) (by decide +kernel), inX2, tyX2_ok, nmX2, rfl, rfl⟩
theorem gf_X3_40 : Gf RX3 40 2 1 .int false := ⟨RX2, TX2, 11, tyX2, rfl, by decide, wsG_1 150 (by decide +kernel) (by decide +kernel), inX2, tyX2_ok, nmX2, rfl, rfl⟩
theorem gf_X11_147 : Gf RX11 147 2 1 .int false := ⟨RX2, TX2, 11, tyX2, rfl, by decide, wsG_1 151 (by decide +kernel) (by decide +kernel), inX2, tyX2_ok, nmX2, rfl, rfl⟩
theorem gf_X2_11 : Gf RX2 11 2 2 (.array .long) true := ⟨RX2, TX2, 11, tyX2, rfl, by decide, wsG_1 152 (by decide +kernel) (by decide +kernel), inX2, tyX2_ok, nmX2, rfl, rfl⟩
theorem gf_X3_100 : Gf RX3 100 2 2 (.array .long) true := ⟨RX2, TX2, 11, tyX2, rfl, by decide, wsG_1 153 (by decide +kernel) (by decide +kernel), inX2, tyX2_ok, nmX2, rfl, rfl⟩
theorem gf_X2_15 : Gf RX2 15 2 3 (.array .int) true := ⟨RX2, TX2, 11, tyX2, rfl, by decide, wsG_1 154 (by decide +kernel) (by decide +kernel), inX2, tyX2_ok, nmX2, rfl, rfl⟩
theorem gf_X0_67 : Gf RX0 67 2 3 (.array .int) true := ⟨RX2, TX2, 11, tyX2, rfl, by decide, wsG_1 155 (by decide +kernel) (by decide +kernel), inX2, tyX2_ok, nmX2, rfl, rfl⟩
theorem gf_X3_56 : Gf RX3 56 2 3 (.array .int) true := ⟨RX2, TX2, 11, tyX2, rfl, by decide, wsG_1 156 (by decide +kernel) (by decide +kernel), inX2, tyX2_ok, nmX2, rfl, rfl⟩
theorem gf_X8_108 : Gf RX8 108 2 3 (.array .int) true := ⟨RX2, TX2, 11, tyX2, rfl, by decide, wsG_1 157 (by decide +kernel) (by decide +kernel), inX2, tyX2_ok, nmX2, rfl, rfl⟩
theorem gf_X5_133 : Gf RX5 133 2 3 (.array .int) true := ⟨RX2, TX2, 11, tyX2, rfl, by decide, wsG_1 158 (by decide +kernel) (by decide +kernel), inX2, tyX2_ok, nmX2, rfl, rfl⟩
theorem gf_X2_19 : Gf RX2 19 2 4 (.array .int) true := ⟨RX2, TX2, 11, tyX2, rfl, by decide, wsG_1 159 (by decide +kernel) (by decide +kernel), inX2, tyX2_ok, nmX2, rfl, rfl⟩
theorem gf_X3_79 : Gf RX3 79 2 4 (.array .int) true := ⟨RX2, TX2, 11, tyX2, rfl, by decide, wsG_1 160 (by decide +kernel) (by decide +kernel), inX2, tyX2_ok, nmX2, rfl, rfl⟩
theorem gf_X8_111 : Gf RX8 111 2 4 (.array .int) true := ⟨RX2, TX2, 11, tyX2, rfl, by decide, wsG_1 161 (by decide +kernel) (by decide +kernel), inX2, tyX2_ok, nmX2, rfl, rfl⟩
theorem gf_X2_22 : Gf RX2 22 2 5 (.array .int) true := ⟨RX2, TX2, 11, tyX2, rfl, by decide, wsG_1 162 (by decide +kernel) (by decide +kernel), inX2, tyX2_ok, nmX2, rfl, rfl⟩
theorem gf_X3_73 : Gf RX3 73 2 5 (.array .int) true := ⟨RX2, TX2, 11, tyX2, rfl, by decide, wsG_1 163 (by decide +kernel) (by decide +kernel), inX2, tyX2_ok, nmX2, rfl, rfl⟩
theorem gf_X2_25 : Gf RX2 25 2 6 (.array .int) true := ⟨RX2, TX2, 11, tyX2, rfl, by decide, wsG_1 164 (by decide +kernel) (by decide +kernel), inX2, tyX2_ok, nmX2, rfl, rfl⟩
theorem gf_X3_76 : Gf RX3 76 2 6 (.array .int) true := ⟨RX2, TX2, 11, tyX2, rfl, by decide, wsG_1 165 (by decide +kernel) (by decide +kernel), inX2, tyX2_ok, nmX2, rfl, rfl⟩
theorem gf_X2_28 : Gf RX2 28 2 7 (.array .int) true := ⟨RX2, TX2, 11, tyX2, rfl, by decide, wsG_1 166 (by decide +kernel) (by decide +kernel), inX2, tyX2_ok, nmX2, rfl, rfl⟩
theorem gf_X3_104 : Gf RX3 104 2 7 (.array .int) true := ⟨RX2, TX2, 11, tyX2, rfl, by decide, wsG_1 167 (by decide +kernel) (by decide +kernel), inX2, tyX2_ok, nmX2, rfl, rfl⟩
theorem gf_X2_31 : Gf RX2 31 2 8 (.array .int) true := ⟨RX2, TX2, 11, tyX2, rfl, by decide, wsG_1 168 (by decide +kernel) (by decide +kernel), inX2, tyX2_ok, nmX2, rfl, rfl⟩
theorem gf_X3_107 : Gf RX3 107 2 8 (.array .int) true := ⟨RX2, TX2, 11, tyX2, rfl, by decide, wsG_1 169 (by decide +kernel) (by decide +kernel), inX2, tyX2_ok, nmX2, rfl, rfl⟩
theorem gf_X2_34 : Gf RX2 34 2 9 (.array .int) true := ⟨RX2, TX2, 11, tyX2, rfl, by decide, wsG_1 170 (by decide +kernel) (by decide +kernel), inX2, tyX2_ok, nmX2, rfl, rfl⟩
theorem gf_X3_114 : Gf RX3 114 2 9 (.array .int) true := ⟨RX2, TX2, 11, tyX2, rfl, by decide, wsG_1 171 (by decide +kernel) (by decide +kernel), inX2, tyX2_ok, nmX2, rfl, rfl⟩
theorem gf_X2_37 : Gf RX2 37 2 10 (.array .int) true := ⟨RX2, TX2, 11, tyX2, rfl, by decide, wsG_1 172 (by decide +kernel) (by decide +kernel), inX2, tyX2_ok, nmX2, rfl, rfl⟩
theorem gf_X3_117 : Gf RX3 117 2 10 (.array .int) true := ⟨RX2, TX2, 11, tyX2, rfl, by decide, wsG_1 173 (by decide +kernel) (by decide +kernel), inX2, tyX2_ok, nmX2, rfl, rfl⟩
theorem gf_X3_9 : Gf RX3 9 3 0 (.object "GreyBoxes$Tokens") true := ⟨RX3, TX3, 2, tyX3, rfl, by decide, wsG_1 204 (by decide +kernel) (by decide +kernel), inX3, tyX3_ok, nmX3, rfl, rfl⟩
theorem gf_X3_15 : Gf RX3 15 3 1 (.object "GreyBoxes$Hill") true := ⟨RX3, TX3, 2, tyX3, rfl, by decide, wsG_1 205 (by decide +kernel) (by decide +kernel), inX3, tyX3_ok, nmX3, rfl, rfl⟩
theorem gf_X6_24 : Gf RX6 24 6 0 .int false := ⟨RX6, TX6, 6, tyX6, rfl, by decide, wsG_1 217 (by decide +kernel) (by decide +kernel), inX6, tyX6_ok, nmX6, rfl, rfl⟩
theorem gf_X10_38 : Gf RX10 38 6 0 .int false := ⟨RX6, TX6, 6, tyX6, rfl, by decide, wsG_1 218 (by decide +kernel) (by decide +kernel), inX6, tyX6_ok, nmX6, rfl, rfl⟩
theorem gf_X7_37 : Gf RX7 37 6 0 .int false := ⟨RX6, TX6, 6, tyX6, rfl, by decide, wsG_1 219 (by decide +kernel) (by decide +kernel), inX6, tyX6_ok, nmX6, rfl, rfl⟩
theorem gf_X11_156 : Gf RX11 156 6 0 .int false := ⟨RX6, TX6, 6, tyX6, rfl, by decide, wsG_1 220 (by decide +kernel) (by decide +kernel), inX6, tyX6_ok, nmX6, rfl, rfl⟩
theorem gf_X6_11 : Gf RX6 11 6 1 (.array .int) true := ⟨RX6, TX6, 6, tyX6, rfl, by decide, wsG_1 221 (by decide +kernel) (by decide +kernel), inX6, tyX6_ok, nmX6, rfl, rfl⟩
theorem gf_X10_85 : Gf RX10 85 6 1 (.array .int) true := ⟨RX6, TX6, 6, tyX6, rfl, by decide, wsG_1 222 (by decide +kernel) (by decide +kernel), inX6, tyX6_ok, nmX6, rfl, rfl⟩
theorem gf_X11_275 : Gf RX11 275 6 1 (.array .int) true := ⟨RX6, TX6, 6, tyX6, rfl, by decide, wsG_1 223 (by decide +kernel) (by decide +kernel), inX6, tyX6_ok, nmX6, rfl, rfl⟩
theorem gf_X6_15 : Gf RX6 15 6 2 (.array .int) true := ⟨RX6, TX6, 6, tyX6, rfl, by decide, wsG_1 224 (by decide +kernel) (by decide +kernel), inX6, tyX6_ok, nmX6, rfl, rfl⟩
theorem gf_X6_28 : Gf RX6 28 6 3 .int false := ⟨RX6, TX6, 6, tyX6, rfl, by decide, wsG_1 225 (by decide +kernel) (by decide +kernel), inX6, tyX6_ok, nmX6, rfl, rfl⟩
theorem gf_X6_18 : Gf RX6 18 6 4 (.array .int) true := ⟨RX6, TX6, 6, tyX6, rfl, by decide, wsG_1 226 (by decide +kernel) (by decide +kernel), inX6, tyX6_ok, nmX6, rfl, rfl⟩
theorem gf_X6_21 : Gf RX6 21 6 5 (.array .int) true := ⟨RX6, TX6, 6, tyX6, rfl, by decide, wsG_1 227 (by decide +kernel) (by decide +kernel), inX6, tyX6_ok, nmX6, rfl, rfl⟩
theorem gf_X7_9 : Gf RX7 9 7 0 (.object "GreyBoxes$Tokens") true := ⟨RX7, TX7, 4, tyX7, rfl, by decide, wsG_2 7 (by decide +kernel) (by decide +kernel), inX7, tyX7_ok, nmX7, rfl, rfl⟩
theorem gf_X7_15 : Gf RX7 15 7 1 (.object "GreyBoxes$Hill") true := ⟨RX7, TX7, 4, tyX7, rfl, by decide, wsG_2 8 (by decide +kernel) (by decide +kernel), inX7, tyX7_ok, nmX7, rfl, rfl⟩
theorem gf_X7_19 : Gf RX7 19 7 2 (.object "GreyBoxes$Rules") true := ⟨RX7, TX7, 4, tyX7, rfl, by decide, wsG_2 9 (by decide +kernel) (by decide +kernel), inX7, tyX7_ok, nmX7, rfl, rfl⟩
theorem gf_X7_28 : Gf RX7 28 7 3 .int false := ⟨RX7, TX7, 4, tyX7, rfl, by decide, wsG_2 10 (by decide +kernel) (by decide +kernel), inX7, tyX7_ok, nmX7, rfl, rfl⟩
theorem gf_X1_28 : Gf RX1 28 1 0 .int false := ⟨RX1, TX1, 11, tyX1, rfl, by decide, wsG_2 26 (by decide +kernel) (by decide +kernel), inX1, tyX1_ok, nmX1, rfl, rfl⟩
theorem gf_X4_53 : Gf RX4 53 1 0 .int false := ⟨RX1, TX1, 11, tyX1, rfl, by decide, wsG_2 27 (by decide +kernel) (by decide +kernel), inX1, tyX1_ok, nmX1, rfl, rfl⟩
theorem gf_X11_308 : Gf RX11 308 1 0 .int false := ⟨RX1, TX1, 11, tyX1, rfl, by decide, wsG_2 28 (by decide +kernel) (by decide +kernel), inX1, tyX1_ok, nmX1, rfl, rfl⟩
theorem gf_X1_44 : Gf RX1 44 1 1 .int false := ⟨RX1, TX1, 11, tyX1, rfl, by decide, wsG_2 29 (by decide +kernel) (by decide +kernel), inX1, tyX1_ok, nmX1, rfl, rfl⟩
theorem gf_X11_309 : Gf RX11 309 1 1 .int false := ⟨RX1, TX1, 11, tyX1, rfl, by decide, wsG_2 30 (by decide +kernel) (by decide +kernel), inX1, tyX1_ok, nmX1, rfl, rfl⟩
theorem gf_X1_39 : Gf RX1 39 1 2 .int false := ⟨RX1, TX1, 11, tyX1, rfl, by decide, wsG_2 31 (by decide +kernel) (by decide +kernel), inX1, tyX1_ok, nmX1, rfl, rfl⟩
theorem gf_X4_41 : Gf RX4 41 1 2 .int false := ⟨RX1, TX1, 11, tyX1, rfl, by decide, wsG_2 32 (by decide +kernel) (by decide +kernel), inX1, tyX1_ok, nmX1, rfl, rfl⟩
theorem gf_X1_32 : Gf RX1 32 1 3 .long false := ⟨RX1, TX1, 11, tyX1, rfl, by decide, wsG_2 33 (by decide +kernel) (by decide +kernel), inX1, tyX1_ok, nmX1, rfl, rfl⟩
theorem gf_X11_312 : Gf RX11 312 1 3 .long false := ⟨RX1, TX1, 11, tyX1, rfl, by decide, wsG_2 34 (by decide +kernel) (by decide +kernel), inX1, tyX1_ok, nmX1, rfl, rfl⟩
theorem gf_X1_36 : Gf RX1 36 1 4 .int false := ⟨RX1, TX1, 11, tyX1, rfl, by decide, wsG_2 35 (by decide +kernel) (by decide +kernel), inX1, tyX1_ok, nmX1, rfl, rfl⟩
theorem gf_X11_322 : Gf RX11 322 1 4 .int false := ⟨RX1, TX1, 11, tyX1, rfl, by decide, wsG_2 36 (by decide +kernel) (by decide +kernel), inX1, tyX1_ok, nmX1, rfl, rfl⟩
theorem gf_X1_9 : Gf RX1 9 1 5 (.array .int) true := ⟨RX1, TX1, 11, tyX1, rfl, by decide, wsG_2 37 (by decide +kernel) (by decide +kernel), inX1, tyX1_ok, nmX1, rfl, rfl⟩
theorem gf_X4_64 : Gf RX4 64 1 5 (.array .int) true := ⟨RX1, TX1, 11, tyX1, rfl, by decide, wsG_2 38 (by decide +kernel) (by decide +kernel), inX1, tyX1_ok, nmX1, rfl, rfl⟩
theorem gf_X1_13 : Gf RX1 13 1 6 (.array .int) true := ⟨RX1, TX1, 11, tyX1, rfl, by decide, wsG_2 39 (by decide +kernel) (by decide +kernel), inX1, tyX1_ok, nmX1, rfl, rfl⟩
theorem gf_X4_67 : Gf RX4 67 1 6 (.array .int) true := ⟨RX1, TX1, 11, tyX1, rfl, by decide, wsG_2 40 (by decide +kernel) (by decide +kernel), inX1, tyX1_ok, nmX1, rfl, rfl⟩
theorem gf_X1_16 : Gf RX1 16 1 7 (.array .int) true := ⟨RX1, TX1, 11, tyX1, rfl, by decide, wsG_2 41 (by decide +kernel) (by decide +kernel), inX1, tyX1_ok, nmX1, rfl, rfl⟩
theorem gf_X4_70 : Gf RX4 70 1 7 (.array .int) true := ⟨RX1, TX1, 11, tyX1, rfl, by decide, wsG_2 42 (by decide +kernel) (by decide +kernel), inX1, tyX1_ok, nmX1, rfl, rfl⟩
theorem gf_X1_19 : Gf RX1 19 1 8 (.array .int) true := ⟨RX1, TX1, 11, tyX1, rfl, by decide, wsG_2 43 (by decide +kernel) (by decide +kernel), inX1, tyX1_ok, nmX1, rfl, rfl⟩
theorem gf_X4_71 : Gf RX4 71 1 8 (.array .int) true := ⟨RX1, TX1, 11, tyX1, rfl, by decide, wsG_2 44 (by decide +kernel) (by decide +kernel), inX1, tyX1_ok, nmX1, rfl, rfl⟩
theorem gf_X1_22 : Gf RX1 22 1 9 (.array .int) true := ⟨RX1, TX1, 11, tyX1, rfl, by decide, wsG_2 45 (by decide +kernel) (by decide +kernel), inX1, tyX1_ok, nmX1, rfl, rfl⟩
theorem gf_X1_25 : Gf RX1 25 1 10 (.array .int) true := ⟨RX1, TX1, 11, tyX1, rfl, by decide, wsG_2 46 (by decide +kernel) (by decide +kernel), inX1, tyX1_ok, nmX1, rfl, rfl⟩
theorem gf_X4_9 : Gf RX4 9 4 0 (.object "GreyBoxes$Facts") true := ⟨RX4, TX4, 8, tyX4, rfl, by decide, wsG_2 76 (by decide +kernel) (by decide +kernel), inX4, tyX4_ok, nmX4, rfl, rfl⟩
theorem gf_X4_15 : Gf RX4 15 4 1 (.object "GreyBoxes$Hill") true := ⟨RX4, TX4, 8, tyX4, rfl, by decide, wsG_2 77 (by decide +kernel) (by decide +kernel), inX4, tyX4_ok, nmX4, rfl, rfl⟩
theorem gf_X4_19 : Gf RX4 19 4 2 (.array .int) true := ⟨RX4, TX4, 8, tyX4, rfl, by decide, wsG_2 78 (by decide +kernel) (by decide +kernel), inX4, tyX4_ok, nmX4, rfl, rfl⟩
theorem gf_X4_25 : Gf RX4 25 4 3 (.array .int) true := ⟨RX4, TX4, 8, tyX4, rfl, by decide, wsG_2 79 (by decide +kernel) (by decide +kernel), inX4, tyX4_ok, nmX4, rfl, rfl⟩
theorem gf_X4_28 : Gf RX4 28 4 4 (.array .int) true := ⟨RX4, TX4, 8, tyX4, rfl, by decide, wsG_2 80 (by decide +kernel) (by decide +kernel), inX4, tyX4_ok, nmX4, rfl, rfl⟩
theorem gf_X4_35 : Gf RX4 35 4 5 .int false := ⟨RX4, TX4, 8, tyX4, rfl, by decide, wsG_2 81 (by decide +kernel) (by decide +kernel), inX4, tyX4_ok, nmX4, rfl, rfl⟩
theorem gf_X4_38 : Gf RX4 38 4 6 .int false := ⟨RX4, TX4, 8, tyX4, rfl, by decide, wsG_2 82 (by decide +kernel) (by decide +kernel), inX4, tyX4_ok, nmX4, rfl, rfl⟩
theorem gf_X4_31 : Gf RX4 31 4 7 .int false := ⟨RX4, TX4, 8, tyX4, rfl, by decide, wsG_2 83 (by decide +kernel) (by decide +kernel), inX4, tyX4_ok, nmX4, rfl, rfl⟩
theorem gf_X5_57 : Gf RX5 57 4 7 .int false := ⟨RX4, TX4, 8, tyX4, rfl, by decide, wsG_2 84 (by decide +kernel) (by decide +kernel), inX4, tyX4_ok, nmX4, rfl, rfl⟩
theorem gf_X5_9 : Gf RX5 9 5 0 (.object "GreyBoxes$Facts") true := ⟨RX5, TX5, 15, tyX5, rfl, by decide, wsG_2 109 (by decide +kernel) (by decide +kernel), inX5, tyX5_ok, nmX5, rfl, rfl⟩
theorem gf_X5_15 : Gf RX5 15 5 1 (.object "GreyBoxes$Known") true := ⟨RX5, TX5, 15, tyX5, rfl, by decide, wsG_2 110 (by decide +kernel) (by decide +kernel), inX5, tyX5_ok, nmX5, rfl, rfl⟩
theorem gf_X5_19 : Gf RX5 19 5 2 (.object "GreyBoxes$Hill") true := ⟨RX5, TX5, 15, tyX5, rfl, by decide, wsG_2 111 (by decide +kernel) (by decide +kernel), inX5, tyX5_ok, nmX5, rfl, rfl⟩
theorem gf_X5_23 : Gf RX5 23 5 3 .int true := ⟨RX5, TX5, 15, tyX5, rfl, by decide, wsG_2 112 (by decide +kernel) (by decide +kernel), inX5, tyX5_ok, nmX5, rfl, rfl⟩
theorem gf_X5_54 : Gf RX5 54 5 4 .int false := ⟨RX5, TX5, 15, tyX5, rfl, by decide, wsG_2 113 (by decide +kernel) (by decide +kernel), inX5, tyX5_ok, nmX5, rfl, rfl⟩
theorem gf_X5_60 : Gf RX5 60 5 5 .int false := ⟨RX5, TX5, 15, tyX5, rfl, by decide, wsG_2 114 (by decide +kernel) (by decide +kernel), inX5, tyX5_ok, nmX5, rfl, rfl⟩
theorem gf_X5_63 : Gf RX5 63 5 6 .int false := ⟨RX5, TX5, 15, tyX5, rfl, by decide, wsG_2 115 (by decide +kernel) (by decide +kernel), inX5, tyX5_ok, nmX5, rfl, rfl⟩
theorem gf_X5_27 : Gf RX5 27 5 7 (.array .int) true := ⟨RX5, TX5, 15, tyX5, rfl, by decide, wsG_2 116 (by decide +kernel) (by decide +kernel), inX5, tyX5_ok, nmX5, rfl, rfl⟩
theorem gf_X5_31 : Gf RX5 31 5 8 (.array .int) true := ⟨RX5, TX5, 15, tyX5, rfl, by decide, wsG_2 117 (by decide +kernel) (by decide +kernel), inX5, tyX5_ok, nmX5, rfl, rfl⟩
theorem gf_X5_87 : Gf RX5 87 5 9 .int false := ⟨RX5, TX5, 15, tyX5, rfl, by decide, wsG_2 118 (by decide +kernel) (by decide +kernel), inX5, tyX5_ok, nmX5, rfl, rfl⟩
theorem gf_X5_34 : Gf RX5 34 5 10 (.array .int) true := ⟨RX5, TX5, 15, tyX5, rfl, by decide, wsG_2 119 (by decide +kernel) (by decide +kernel), inX5, tyX5_ok, nmX5, rfl, rfl⟩
theorem gf_X5_37 : Gf RX5 37 5 11 (.array .int) true := ⟨RX5, TX5, 15, tyX5, rfl, by decide, wsG_2 120 (by decide +kernel) (by decide +kernel), inX5, tyX5_ok, nmX5, rfl, rfl⟩
theorem gf_X8_68 : Gf RX8 68 5 11 (.array .int) true := ⟨RX5, TX5, 15, tyX5, rfl, by decide, wsG_2 121 (by decide +kernel) (by decide +kernel), inX5, tyX5_ok, nmX5, rfl, rfl⟩
theorem gf_X11_217 : Gf RX11 217 5 11 (.array .int) true := ⟨RX5, TX5, 15, tyX5, rfl, by decide, wsG_2 122 (by decide +kernel) (by decide +kernel), inX5, tyX5_ok, nmX5, rfl, rfl⟩
theorem gf_X8_65 : Gf RX8 65 5 12 .int false := ⟨RX5, TX5, 15, tyX5, rfl, by decide, wsG_2 123 (by decide +kernel) (by decide +kernel), inX5, tyX5_ok, nmX5, rfl, rfl⟩
theorem gf_X5_130 : Gf RX5 130 5 12 .int false := ⟨RX5, TX5, 15, tyX5, rfl, by decide, wsG_2 124 (by decide +kernel) (by decide +kernel), inX5, tyX5_ok, nmX5, rfl, rfl⟩
theorem gf_X11_215 : Gf RX11 215 5 12 .int false := ⟨RX5, TX5, 15, tyX5, rfl, by decide, wsG_2 125 (by decide +kernel) (by decide +kernel), inX5, tyX5_ok, nmX5, rfl, rfl⟩
theorem gf_X5_122 : Gf RX5 122 5 13 .int false := ⟨RX5, TX5, 15, tyX5, rfl, by decide, wsG_2 126 (by decide +kernel) (by decide +kernel), inX5, tyX5_ok, nmX5, rfl, rfl⟩
theorem gf_X11_223 : Gf RX11 223 5 13 .int false := ⟨RX5, TX5, 15, tyX5, rfl, by decide, wsG_2 127 (by decide +kernel) (by decide +kernel), inX5, tyX5_ok, nmX5, rfl, rfl⟩
theorem gf_X5_84 : Gf RX5 84 5 14 .int false := ⟨RX5, TX5, 15, tyX5, rfl, by decide, wsG_2 128 (by decide +kernel) (by decide +kernel), inX5, tyX5_ok, nmX5, rfl, rfl⟩
theorem gf_X11_229 : Gf RX11 229 5 14 .int false := ⟨RX5, TX5, 15, tyX5, rfl, by decide, wsG_2 129 (by decide +kernel) (by decide +kernel), inX5, tyX5_ok, nmX5, rfl, rfl⟩
theorem gf_X8_9 : Gf RX8 9 8 0 (.array (.object "GreyBoxes$Laws")) true := ⟨RX8, TX8, 7, tyX8, rfl, by decide, wsG_2 167 (by decide +kernel) (by decide +kernel), inX8, tyX8_ok, nmX8, rfl, rfl⟩
theorem gf_X8_15 : Gf RX8 15 8 1 (.object "GreyBoxes$Known") true := ⟨RX8, TX8, 7, tyX8, rfl, by decide, wsG_2 168 (by decide +kernel) (by decide +kernel), inX8, tyX8_ok, nmX8, rfl, rfl⟩
theorem gf_X8_19 : Gf RX8 19 8 2 (.object "GreyBoxes$Hill") true := ⟨RX8, TX8, 7, tyX8, rfl, by decide, wsG_2 169 (by decide +kernel) (by decide +kernel), inX8, tyX8_ok, nmX8, rfl, rfl⟩
theorem gf_X8_23 : Gf RX8 23 8 3 (.array .int) true := ⟨RX8, TX8, 7, tyX8, rfl, by decide, wsG_2 170 (by decide +kernel) (by decide +kernel), inX8, tyX8_ok, nmX8, rfl, rfl⟩
theorem gf_X8_27 : Gf RX8 27 8 4 (.array .int) true := ⟨RX8, TX8, 7, tyX8, rfl, by decide, wsG_2 171 (by decide +kernel) (by decide +kernel), inX8, tyX8_ok, nmX8, rfl, rfl⟩
theorem gf_X8_31 : Gf RX8 31 8 5 .int false := ⟨RX8, TX8, 7, tyX8, rfl, by decide, wsG_2 172 (by decide +kernel) (by decide +kernel), inX8, tyX8_ok, nmX8, rfl, rfl⟩
theorem gf_X11_256 : Gf RX11 256 8 5 .int false := ⟨RX8, TX8, 7, tyX8, rfl, by decide, wsG_2 173 (by decide +kernel) (by decide +kernel), inX8, tyX8_ok, nmX8, rfl, rfl⟩
theorem gf_X8_35 : Gf RX8 35 8 6 .int false := ⟨RX8, TX8, 7, tyX8, rfl, by decide, wsG_2 174 (by decide +kernel) (by decide +kernel), inX8, tyX8_ok, nmX8, rfl, rfl⟩
theorem gf_X11_253 : Gf RX11 253 8 6 .int false := ⟨RX8, TX8, 7, tyX8, rfl, by decide, wsG_2 175 (by decide +kernel) (by decide +kernel), inX8, tyX8_ok, nmX8, rfl, rfl⟩
theorem gf_X0_9 : Gf RX0 9 0 0 (.array (.object "GreyBoxes$Laws")) true := ⟨RX0, TX0, 6, tyX0, rfl, by decide, wsG_2 197 (by decide +kernel) (by decide +kernel), inX0, tyX0_ok, nmX0, rfl, rfl⟩
theorem gf_X0_15 : Gf RX0 15 0 1 (.object "GreyBoxes$Known") true := ⟨RX0, TX0, 6, tyX0, rfl, by decide, wsG_2 198 (by decide +kernel) (by decide +kernel), inX0, tyX0_ok, nmX0, rfl, rfl⟩
theorem gf_X0_19 : Gf RX0 19 0 2 (.object "GreyBoxes$Hill") true := ⟨RX0, TX0, 6, tyX0, rfl, by decide, wsG_2 199 (by decide +kernel) (by decide +kernel), inX0, tyX0_ok, nmX0, rfl, rfl⟩
theorem gf_X0_25 : Gf RX0 25 0 3 (.array .int) true := ⟨RX0, TX0, 6, tyX0, rfl, by decide, wsG_2 200 (by decide +kernel) (by decide +kernel), inX0, tyX0_ok, nmX0, rfl, rfl⟩
theorem gf_X0_29 : Gf RX0 29 0 4 (.array .int) true := ⟨RX0, TX0, 6, tyX0, rfl, by decide, wsG_2 201 (by decide +kernel) (by decide +kernel), inX0, tyX0_ok, nmX0, rfl, rfl⟩
theorem gf_X0_32 : Gf RX0 32 0 5 (.array .int) true := ⟨RX0, TX0, 6, tyX0, rfl, by decide, wsG_2 202 (by decide +kernel) (by decide +kernel), inX0, tyX0_ok, nmX0, rfl, rfl⟩
theorem gf_X11_247 : Gf RX11 247 0 5 (.array .int) true := ⟨RX0, TX0, 6, tyX0, rfl, by decide, wsG_2 203 (by decide +kernel) (by decide +kernel), inX0, tyX0_ok, nmX0, rfl, rfl⟩
theorem gf_X10_9 : Gf RX10 9 10 0 (.object "GreyBoxes$Rules") true := ⟨RX10, TX10, 12, tyX10, rfl, by decide, wsG_2 223 (by decide +kernel) (by decide +kernel), inX10, tyX10_ok, nmX10, rfl, rfl⟩
theorem gf_X10_15 : Gf RX10 15 10 1 (.object "GreyBoxes$Known") true := ⟨RX10, TX10, 12, tyX10, rfl, by decide, wsG_2 224 (by decide +kernel) (by decide +kernel), inX10, tyX10_ok, nmX10, rfl, rfl⟩
theorem gf_X10_19 : Gf RX10 19 10 2 (.object "GreyBoxes$Hill") true := ⟨RX10, TX10, 12, tyX10, rfl, by decide, wsG_2 225 (by decide +kernel) (by decide +kernel), inX10, tyX10_ok, nmX10, rfl, rfl⟩
theorem gf_X10_46 : Gf RX10 46 10 3 .int false := ⟨RX10, TX10, 12, tyX10, rfl, by decide, wsG_2 226 (by decide +kernel) (by decide +kernel), inX10, tyX10_ok, nmX10, rfl, rfl⟩
theorem gf_X11_284 : Gf RX11 284 10 3 .int false := ⟨RX10, TX10, 12, tyX10, rfl, by decide, wsG_2 227 (by decide +kernel) (by decide +kernel), inX10, tyX10_ok, nmX10, rfl, rfl⟩
theorem gf_X10_49 : Gf RX10 49 10 4 .int false := ⟨RX10, TX10, 12, tyX10, rfl, by decide, wsG_2 228 (by decide +kernel) (by decide +kernel), inX10, tyX10_ok, nmX10, rfl, rfl⟩
theorem gf_X11_287 : Gf RX11 287 10 4 .int false := ⟨RX10, TX10, 12, tyX10, rfl, by decide, wsG_2 229 (by decide +kernel) (by decide +kernel), inX10, tyX10_ok, nmX10, rfl, rfl⟩
theorem gf_X10_52 : Gf RX10 52 10 5 .int false := ⟨RX10, TX10, 12, tyX10, rfl, by decide, wsG_2 230 (by decide +kernel) (by decide +kernel), inX10, tyX10_ok, nmX10, rfl, rfl⟩
theorem gf_X10_55 : Gf RX10 55 10 6 .int false := ⟨RX10, TX10, 12, tyX10, rfl, by decide, wsG_2 231 (by decide +kernel) (by decide +kernel), inX10, tyX10_ok, nmX10, rfl, rfl⟩
theorem gf_X10_25 : Gf RX10 25 10 7 (.array .int) true := ⟨RX10, TX10, 12, tyX10, rfl, by decide, wsG_2 232 (by decide +kernel) (by decide +kernel), inX10, tyX10_ok, nmX10, rfl, rfl⟩
theorem gf_X11_302 : Gf RX11 302 10 7 (.array .int) true := ⟨RX10, TX10, 12, tyX10, rfl, by decide, wsG_2 233 (by decide +kernel) (by decide +kernel), inX10, tyX10_ok, nmX10, rfl, rfl⟩
theorem gf_X10_29 : Gf RX10 29 10 8 (.array .int) true := ⟨RX10, TX10, 12, tyX10, rfl, by decide, wsG_2 234 (by decide +kernel) (by decide +kernel), inX10, tyX10_ok, nmX10, rfl, rfl⟩
theorem gf_X11_305 : Gf RX11 305 10 8 (.array .int) true := ⟨RX10, TX10, 12, tyX10, rfl, by decide, wsG_2 235 (by decide +kernel) (by decide +kernel), inX10, tyX10_ok, nmX10, rfl, rfl⟩
theorem gf_X10_107 : Gf RX10 107 10 9 .int false := ⟨RX10, TX10, 12, tyX10, rfl, by decide, wsG_2 236 (by decide +kernel) (by decide +kernel), inX10, tyX10_ok, nmX10, rfl, rfl⟩
theorem gf_X10_32 : Gf RX10 32 10 10 (.array .int) true := ⟨RX10, TX10, 12, tyX10, rfl, by decide, wsG_2 237 (by decide +kernel) (by decide +kernel), inX10, tyX10_ok, nmX10, rfl, rfl⟩
theorem gf_X10_35 : Gf RX10 35 10 11 (.array .int) true := ⟨RX10, TX10, 12, tyX10, rfl, by decide, wsG_2 238 (by decide +kernel) (by decide +kernel), inX10, tyX10_ok, nmX10, rfl, rfl⟩
theorem gf_X11_9 : Gf RX11 9 11 0 (.array .byte) true := ⟨RX11, TX11, 17, tyX11, rfl, by decide, wsG_3 24 (by decide +kernel) (by decide +kernel), inX11, tyX11_ok, nmX11, rfl, rfl⟩
theorem gf_X11_114 : Gf RX11 114 11 1 .int false := ⟨RX11, TX11, 17, tyX11, rfl, by decide, wsG_3 25 (by decide +kernel) (by decide +kernel), inX11, tyX11_ok, nmX11, rfl, rfl⟩
theorem gf_X11_133 : Gf RX11 133 11 2 .int false := ⟨RX11, TX11, 17, tyX11, rfl, by decide, wsG_3 26 (by decide +kernel) (by decide +kernel), inX11, tyX11_ok, nmX11, rfl, rfl⟩
theorem gf_X11_13 : Gf RX11 13 11 3 .int false := ⟨RX11, TX11, 17, tyX11, rfl, by decide, wsG_3 27 (by decide +kernel) (by decide +kernel), inX11, tyX11_ok, nmX11, rfl, rfl⟩
theorem gf_X11_22 : Gf RX11 22 11 4 (.object "GreyBoxes$Tokens") true := ⟨RX11, TX11, 17, tyX11, rfl, by decide, wsG_3 28 (by decide +kernel) (by decide +kernel), inX11, tyX11_ok, nmX11, rfl, rfl⟩
theorem gf_X11_29 : Gf RX11 29 11 5 (.object "GreyBoxes$Hill") true := ⟨RX11, TX11, 17, tyX11, rfl, by decide, wsG_3 29 (by decide +kernel) (by decide +kernel), inX11, tyX11_ok, nmX11, rfl, rfl⟩
theorem gf_X11_33 : Gf RX11 33 11 6 (.object "GreyBoxes$Hill") true := ⟨RX11, TX11, 17, tyX11, rfl, by decide, wsG_3 30 (by decide +kernel) (by decide +kernel), inX11, tyX11_ok, nmX11, rfl, rfl⟩
theorem gf_X11_41 : Gf RX11 41 11 7 (.object "GreyBoxes$HillText") true := ⟨RX11, TX11, 17, tyX11, rfl, by decide, wsG_3 31 (by decide +kernel) (by decide +kernel), inX11, tyX11_ok, nmX11, rfl, rfl⟩
theorem gf_X11_48 : Gf RX11 48 11 8 (.object "GreyBoxes$Rules") true := ⟨RX11, TX11, 17, tyX11, rfl, by decide, wsG_3 32 (by decide +kernel) (by decide +kernel), inX11, tyX11_ok, nmX11, rfl, rfl⟩
theorem gf_X11_52 : Gf RX11 52 11 9 (.object "GreyBoxes$Rules") true := ⟨RX11, TX11, 17, tyX11, rfl, by decide, wsG_3 33 (by decide +kernel) (by decide +kernel), inX11, tyX11_ok, nmX11, rfl, rfl⟩
theorem gf_X11_60 : Gf RX11 60 11 10 (.object "GreyBoxes$RulesText") true := ⟨RX11, TX11, 17, tyX11, rfl, by decide, wsG_3 34 (by decide +kernel) (by decide +kernel), inX11, tyX11_ok, nmX11, rfl, rfl⟩
theorem gf_X11_67 : Gf RX11 67 11 11 (.object "GreyBoxes$Facts") true := ⟨RX11, TX11, 17, tyX11, rfl, by decide, wsG_3 35 (by decide +kernel) (by decide +kernel), inX11, tyX11_ok, nmX11, rfl, rfl⟩
theorem gf_X11_76 : Gf RX11 76 11 12 (.object "GreyBoxes$Known") true := ⟨RX11, TX11, 17, tyX11, rfl, by decide, wsG_3 36 (by decide +kernel) (by decide +kernel), inX11, tyX11_ok, nmX11, rfl, rfl⟩
theorem gf_X11_82 : Gf RX11 82 11 13 (.array (.object "GreyBoxes$Laws")) true := ⟨RX11, TX11, 17, tyX11, rfl, by decide, wsG_3 37 (by decide +kernel) (by decide +kernel), inX11, tyX11_ok, nmX11, rfl, rfl⟩
theorem gf_X11_94 : Gf RX11 94 11 14 (.object "GreyBoxes$Span") true := ⟨RX11, TX11, 17, tyX11, rfl, by decide, wsG_3 38 (by decide +kernel) (by decide +kernel), inX11, tyX11_ok, nmX11, rfl, rfl⟩
theorem gf_X11_101 : Gf RX11 101 11 15 (.object "GreyBoxes$Blame") true := ⟨RX11, TX11, 17, tyX11, rfl, by decide, wsG_3 39 (by decide +kernel) (by decide +kernel), inX11, tyX11_ok, nmX11, rfl, rfl⟩
theorem gf_X11_110 : Gf RX11 110 11 16 (.object "GreyBoxes$Trial") true := ⟨RX11, TX11, 17, tyX11, rfl, by decide, wsG_3 40 (by decide +kernel) (by decide +kernel), inX11, tyX11_ok, nmX11, rfl, rfl⟩
theorem gf_X12_7 : Gf RX12 7 12 0 (.array .int) true := ⟨RX12, TX12, 81, tyX12, rfl, by decide, wsG_6 64 (by decide +kernel) (by decide +kernel), inX12, tyX12_ok, nmX12, rfl, rfl⟩
theorem gf_X12_166 : Gf RX12 166 12 1 .int false := ⟨RX12, TX12, 81, tyX12, rfl, by decide, wsG_6 65 (by decide +kernel) (by decide +kernel), inX12, tyX12_ok, nmX12, rfl, rfl⟩
theorem gf_X12_210 : Gf RX12 210 12 2 .int false := ⟨RX12, TX12, 81, tyX12, rfl, by decide, wsG_6 66 (by decide +kernel) (by decide +kernel), inX12, tyX12_ok, nmX12, rfl, rfl⟩
theorem gf_X12_13 : Gf RX12 13 12 3 .int false := ⟨RX12, TX12, 81, tyX12, rfl, by decide, wsG_6 67 (by decide +kernel) (by decide +kernel), inX12, tyX12_ok, nmX12, rfl, rfl⟩
theorem gf_X12_173 : Gf RX12 173 12 4 .int false := ⟨RX12, TX12, 81, tyX12, rfl, by decide, wsG_6 68 (by decide +kernel) (by decide +kernel), inX12, tyX12_ok, nmX12, rfl, rfl⟩
theorem gf_X12_176 : Gf RX12 176 12 5 .int false := ⟨RX12, TX12, 81, tyX12, rfl, by decide, wsG_6 69 (by decide +kernel) (by decide +kernel), inX12, tyX12_ok, nmX12, rfl, rfl⟩
theorem gf_X12_197 : Gf RX12 197 12 6 .int false := ⟨RX12, TX12, 81, tyX12, rfl, by decide, wsG_6 70 (by decide +kernel) (by decide +kernel), inX12, tyX12_ok, nmX12, rfl, rfl⟩
theorem gf_X12_187 : Gf RX12 187 12 7 .int false := ⟨RX12, TX12, 81, tyX12, rfl, by decide, wsG_6 71 (by decide +kernel) (by decide +kernel), inX12, tyX12_ok, nmX12, rfl, rfl⟩
theorem gf_X12_194 : Gf RX12 194 12 8 .int false := ⟨RX12, TX12, 81, tyX12, rfl, by decide, wsG_6 72 (by decide +kernel) (by decide +kernel), inX12, tyX12_ok, nmX12, rfl, rfl⟩
theorem gf_X12_190 : Gf RX12 190 12 9 .long false := ⟨RX12, TX12, 81, tyX12, rfl, by decide, wsG_6 73 (by decide +kernel) (by decide +kernel), inX12, tyX12_ok, nmX12, rfl, rfl⟩
theorem gf_X12_179 : Gf RX12 179 12 10 .boolean false := ⟨RX12, TX12, 81, tyX12, rfl, by decide, wsG_6 74 (by decide +kernel) (by decide +kernel), inX12, tyX12_ok, nmX12, rfl, rfl⟩
theorem gf_X12_17 : Gf RX12 17 12 11 (.array .long) true := ⟨RX12, TX12, 81, tyX12, rfl, by decide, wsG_6 75 (by decide +kernel) (by decide +kernel), inX12, tyX12_ok, nmX12, rfl, rfl⟩
theorem gf_X12_21 : Gf RX12 21 12 12 (.array .long) true := ⟨RX12, TX12, 81, tyX12, rfl, by decide, wsG_6 76 (by decide +kernel) (by decide +kernel), inX12, tyX12_ok, nmX12, rfl, rfl⟩
theorem gf_X12_24 : Gf RX12 24 12 13 (.array .int) true := ⟨RX12, TX12, 81, tyX12, rfl, by decide, wsG_6 77 (by decide +kernel) (by decide +kernel), inX12, tyX12_ok, nmX12, rfl, rfl⟩
theorem gf_X12_27 : Gf RX12 27 12 14 (.array .int) true := ⟨RX12, TX12, 81, tyX12, rfl, by decide, wsG_6 78 (by decide +kernel) (by decide +kernel), inX12, tyX12_ok, nmX12, rfl, rfl⟩
theorem gf_X12_30 : Gf RX12 30 12 15 (.array .int) true := ⟨RX12, TX12, 81, tyX12, rfl, by decide, wsG_6 79 (by decide +kernel) (by decide +kernel), inX12, tyX12_ok, nmX12, rfl, rfl⟩
theorem gf_X12_33 : Gf RX12 33 12 16 (.array .int) true := ⟨RX12, TX12, 81, tyX12, rfl, by decide, wsG_6 80 (by decide +kernel) (by decide +kernel), inX12, tyX12_ok, nmX12, rfl, rfl⟩
theorem gf_X12_36 : Gf RX12 36 12 17 (.array .int) true := ⟨RX12, TX12, 81, tyX12, rfl, by decide, wsG_6 81 (by decide +kernel) (by decide +kernel), inX12, tyX12_ok, nmX12, rfl, rfl⟩
theorem gf_X12_39 : Gf RX12 39 12 18 (.array .int) true := ⟨RX12, TX12, 81, tyX12, rfl, by decide, wsG_6 82 (by decide +kernel) (by decide +kernel), inX12, tyX12_ok, nmX12, rfl, rfl⟩
theorem gf_X12_42 : Gf RX12 42 12 19 (.array .boolean) true := ⟨RX12, TX12, 81, tyX12, rfl, by decide, wsG_6 83 (by decide +kernel) (by decide +kernel), inX12, tyX12_ok, nmX12, rfl, rfl⟩
theorem gf_X12_46 : Gf RX12 46 12 20 (.array .boolean) true := ⟨RX12, TX12, 81, tyX12, rfl, by decide, wsG_6 84 (by decide +kernel) (by decide +kernel), inX12, tyX12_ok, nmX12, rfl, rfl⟩
theorem gf_X12_49 : Gf RX12 49 12 21 (.array .boolean) true := ⟨RX12, TX12, 81, tyX12, rfl, by decide, wsG_6 85 (by decide +kernel) (by decide +kernel), inX12, tyX12_ok, nmX12, rfl, rfl⟩
theorem gf_X12_52 : Gf RX12 52 12 22 (.array .boolean) true := ⟨RX12, TX12, 81, tyX12, rfl, by decide, wsG_6 86 (by decide +kernel) (by decide +kernel), inX12, tyX12_ok, nmX12, rfl, rfl⟩
theorem gf_X12_55 : Gf RX12 55 12 23 (.array .boolean) true := ⟨RX12, TX12, 81, tyX12, rfl, by decide, wsG_6 87 (by decide +kernel) (by decide +kernel), inX12, tyX12_ok, nmX12, rfl, rfl⟩
theorem gf_X12_58 : Gf RX12 58 12 24 (.array .boolean) true := ⟨RX12, TX12, 81, tyX12, rfl, by decide, wsG_6 88 (by decide +kernel) (by decide +kernel), inX12, tyX12_ok, nmX12, rfl, rfl⟩
theorem gf_X12_61 : Gf RX12 61 12 25 (.array .boolean) true := ⟨RX12, TX12, 81, tyX12, rfl, by decide, wsG_6 89 (by decide +kernel) (by decide +kernel), inX12, tyX12_ok, nmX12, rfl, rfl⟩
theorem gf_X12_64 : Gf RX12 64 12 26 (.array .boolean) true := ⟨RX12, TX12, 81, tyX12, rfl, by decide, wsG_6 90 (by decide +kernel) (by decide +kernel), inX12, tyX12_ok, nmX12, rfl, rfl⟩
theorem gf_X12_67 : Gf RX12 67 12 27 (.array .boolean) true := ⟨RX12, TX12, 81, tyX12, rfl, by decide, wsG_6 91 (by decide +kernel) (by decide +kernel), inX12, tyX12_ok, nmX12, rfl, rfl⟩
theorem gf_X12_70 : Gf RX12 70 12 28 (.array .boolean) true := ⟨RX12, TX12, 81, tyX12, rfl, by decide, wsG_6 92 (by decide +kernel) (by decide +kernel), inX12, tyX12_ok, nmX12, rfl, rfl⟩
theorem gf_X12_275 : Gf RX12 275 12 29 .int false := ⟨RX12, TX12, 81, tyX12, rfl, by decide, wsG_6 93 (by decide +kernel) (by decide +kernel), inX12, tyX12_ok, nmX12, rfl, rfl⟩
theorem gf_X12_305 : Gf RX12 305 12 30 .int false := ⟨RX12, TX12, 81, tyX12, rfl, by decide, wsG_6 94 (by decide +kernel) (by decide +kernel), inX12, tyX12_ok, nmX12, rfl, rfl⟩
theorem gf_X12_321 : Gf RX12 321 12 31 .int false := ⟨RX12, TX12, 81, tyX12, rfl, by decide, wsG_6 95 (by decide +kernel) (by decide +kernel), inX12, tyX12_ok, nmX12, rfl, rfl⟩
theorem gf_X12_324 : Gf RX12 324 12 32 .int false := ⟨RX12, TX12, 81, tyX12, rfl, by decide, wsG_6 96 (by decide +kernel) (by decide +kernel), inX12, tyX12_ok, nmX12, rfl, rfl⟩
theorem gf_X12_73 : Gf RX12 73 12 33 (.array .int) true := ⟨RX12, TX12, 81, tyX12, rfl, by decide, wsG_6 97 (by decide +kernel) (by decide +kernel), inX12, tyX12_ok, nmX12, rfl, rfl⟩
theorem gf_X12_76 : Gf RX12 76 12 34 (.array .int) true := ⟨RX12, TX12, 81, tyX12, rfl, by decide, wsG_6 98 (by decide +kernel) (by decide +kernel), inX12, tyX12_ok, nmX12, rfl, rfl⟩
theorem gf_X12_79 : Gf RX12 79 12 35 (.array .int) true := ⟨RX12, TX12, 81, tyX12, rfl, by decide, wsG_6 99 (by decide +kernel) (by decide +kernel), inX12, tyX12_ok, nmX12, rfl, rfl⟩
theorem gf_X12_82 : Gf RX12 82 12 36 (.array .int) true := ⟨RX12, TX12, 81, tyX12, rfl, by decide, wsG_6 100 (by decide +kernel) (by decide +kernel), inX12, tyX12_ok, nmX12, rfl, rfl⟩
theorem gf_X12_85 : Gf RX12 85 12 37 (.array .int) true := ⟨RX12, TX12, 81, tyX12, rfl, by decide, wsG_6 101 (by decide +kernel) (by decide +kernel), inX12, tyX12_ok, nmX12, rfl, rfl⟩
theorem gf_X12_88 : Gf RX12 88 12 38 (.array .int) true := ⟨RX12, TX12, 81, tyX12, rfl, by decide, wsG_6 102 (by decide +kernel) (by decide +kernel), inX12, tyX12_ok, nmX12, rfl, rfl⟩
theorem gf_X12_91 : Gf RX12 91 12 39 (.array .boolean) true := ⟨RX12, TX12, 81, tyX12, rfl, by decide, wsG_6 103 (by decide +kernel) (by decide +kernel), inX12, tyX12_ok, nmX12, rfl, rfl⟩
theorem gf_X12_94 : Gf RX12 94 12 40 (.array .boolean) true := ⟨RX12, TX12, 81, tyX12, rfl, by decide, wsG_6 104 (by decide +kernel) (by decide +kernel), inX12, tyX12_ok, nmX12, rfl, rfl⟩
theorem gf_X12_97 : Gf RX12 97 12 41 (.array .boolean) true := ⟨RX12, TX12, 81, tyX12, rfl, by decide, wsG_6 105 (by decide +kernel) (by decide +kernel), inX12, tyX12_ok, nmX12, rfl, rfl⟩
theorem gf_X12_327 : Gf RX12 327 12 42 .int false := ⟨RX12, TX12, 81, tyX12, rfl, by decide, wsG_6 106 (by decide +kernel) (by decide +kernel), inX12, tyX12_ok, nmX12, rfl, rfl⟩
theorem gf_X12_336 : Gf RX12 336 12 43 .int false := ⟨RX12, TX12, 81, tyX12, rfl, by decide, wsG_6 107 (by decide +kernel) (by decide +kernel), inX12, tyX12_ok, nmX12, rfl, rfl⟩
theorem gf_X12_100 : Gf RX12 100 12 44 (.array .int) true := ⟨RX12, TX12, 81, tyX12, rfl, by decide, wsG_6 108 (by decide +kernel) (by decide +kernel), inX12, tyX12_ok, nmX12, rfl, rfl⟩
theorem gf_X12_103 : Gf RX12 103 12 45 (.array .int) true := ⟨RX12, TX12, 81, tyX12, rfl, by decide, wsG_6 109 (by decide +kernel) (by decide +kernel), inX12, tyX12_ok, nmX12, rfl, rfl⟩
theorem gf_X12_106 : Gf RX12 106 12 46 (.array .int) true := ⟨RX12, TX12, 81, tyX12, rfl, by decide, wsG_6 110 (by decide +kernel) (by decide +kernel), inX12, tyX12_ok, nmX12, rfl, rfl⟩
theorem gf_X12_109 : Gf RX12 109 12 47 (.array .int) true := ⟨RX12, TX12, 81, tyX12, rfl, by decide, wsG_6 111 (by decide +kernel) (by decide +kernel), inX12, tyX12_ok, nmX12, rfl, rfl⟩
theorem gf_X12_112 : Gf RX12 112 12 48 (.array .int) true := ⟨RX12, TX12, 81, tyX12, rfl, by decide, wsG_6 112 (by decide +kernel) (by decide +kernel), inX12, tyX12_ok, nmX12, rfl, rfl⟩
theorem gf_X12_115 : Gf RX12 115 12 49 (.array .int) true := ⟨RX12, TX12, 81, tyX12, rfl, by decide, wsG_6 113 (by decide +kernel) (by decide +kernel), inX12, tyX12_ok, nmX12, rfl, rfl⟩
theorem gf_X12_118 : Gf RX12 118 12 50 (.array .int) true := ⟨RX12, TX12, 81, tyX12, rfl, by decide, wsG_6 114 (by decide +kernel) (by decide +kernel), inX12, tyX12_ok, nmX12, rfl, rfl⟩
theorem gf_X12_377 : Gf RX12 377 12 51 .int false := ⟨RX12, TX12, 81, tyX12, rfl, by decide, wsG_6 115 (by decide +kernel) (by decide +kernel), inX12, tyX12_ok, nmX12, rfl, rfl⟩
theorem gf_X12_380 : Gf RX12 380 12 52 .int false := ⟨RX12, TX12, 81, tyX12, rfl, by decide, wsG_6 116 (by decide +kernel) (by decide +kernel), inX12, tyX12_ok, nmX12, rfl, rfl⟩
theorem gf_X12_383 : Gf RX12 383 12 53 .int false := ⟨RX12, TX12, 81, tyX12, rfl, by decide, wsG_6 117 (by decide +kernel) (by decide +kernel), inX12, tyX12_ok, nmX12, rfl, rfl⟩
theorem gf_X12_121 : Gf RX12 121 12 54 (.array .int) true := ⟨RX12, TX12, 81, tyX12, rfl, by decide, wsG_6 118 (by decide +kernel) (by decide +kernel), inX12, tyX12_ok, nmX12, rfl, rfl⟩
theorem gf_X12_124 : Gf RX12 124 12 55 (.array .int) true := ⟨RX12, TX12, 81, tyX12, rfl, by decide, wsG_6 119 (by decide +kernel) (by decide +kernel), inX12, tyX12_ok, nmX12, rfl, rfl⟩
theorem gf_X12_410 : Gf RX12 410 12 56 .int false := ⟨RX12, TX12, 81, tyX12, rfl, by decide, wsG_6 120 (by decide +kernel) (by decide +kernel), inX12, tyX12_ok, nmX12, rfl, rfl⟩
theorem gf_X12_413 : Gf RX12 413 12 57 .int false := ⟨RX12, TX12, 81, tyX12, rfl, by decide, wsG_6 121 (by decide +kernel) (by decide +kernel), inX12, tyX12_ok, nmX12, rfl, rfl⟩
theorem gf_X12_127 : Gf RX12 127 12 58 (.array .int) true := ⟨RX12, TX12, 81, tyX12, rfl, by decide, wsG_6 122 (by decide +kernel) (by decide +kernel), inX12, tyX12_ok, nmX12, rfl, rfl⟩
theorem gf_X12_130 : Gf RX12 130 12 59 (.array .int) true := ⟨RX12, TX12, 81, tyX12, rfl, by decide, wsG_6 123 (by decide +kernel) (by decide +kernel), inX12, tyX12_ok, nmX12, rfl, rfl⟩
theorem gf_X12_133 : Gf RX12 133 12 60 (.array .int) true := ⟨RX12, TX12, 81, tyX12, rfl, by decide, wsG_6 124 (by decide +kernel) (by decide +kernel), inX12, tyX12_ok, nmX12, rfl, rfl⟩
theorem gf_X12_136 : Gf RX12 136 12 61 (.array .int) true := ⟨RX12, TX12, 81, tyX12, rfl, by decide, wsG_6 125 (by decide +kernel) (by decide +kernel), inX12, tyX12_ok, nmX12, rfl, rfl⟩
theorem gf_X12_139 : Gf RX12 139 12 62 (.array .int) true := ⟨RX12, TX12, 81, tyX12, rfl, by decide, wsG_6 126 (by decide +kernel) (by decide +kernel), inX12, tyX12_ok, nmX12, rfl, rfl⟩
theorem gf_X12_142 : Gf RX12 142 12 63 (.array .int) true := ⟨RX12, TX12, 81, tyX12, rfl, by decide, wsG_6 127 (by decide +kernel) (by decide +kernel), inX12, tyX12_ok, nmX12, rfl, rfl⟩
theorem gf_X12_145 : Gf RX12 145 12 64 (.array .int) true := ⟨RX12, TX12, 81, tyX12, rfl, by decide, wsG_6 128 (by decide +kernel) (by decide +kernel), inX12, tyX12_ok, nmX12, rfl, rfl⟩
theorem gf_X12_148 : Gf RX12 148 12 65 (.array .int) true := ⟨RX12, TX12, 81, tyX12, rfl, by decide, wsG_6 129 (by decide +kernel) (by decide +kernel), inX12, tyX12_ok, nmX12, rfl, rfl⟩
theorem gf_X12_151 : Gf RX12 151 12 66 (.array .int) true := ⟨RX12, TX12, 81, tyX12, rfl, by decide, wsG_6 130 (by decide +kernel) (by decide +kernel), inX12, tyX12_ok, nmX12, rfl, rfl⟩
theorem gf_X12_154 : Gf RX12 154 12 67 (.array .int) true := ⟨RX12, TX12, 81, tyX12, rfl, by decide, wsG_6 131 (by decide +kernel) (by decide +kernel), inX12, tyX12_ok, nmX12, rfl, rfl⟩
theorem gf_X12_157 : Gf RX12 157 12 68 (.array .boolean) true := ⟨RX12, TX12, 81, tyX12, rfl, by decide, wsG_6 132 (by decide +kernel) (by decide +kernel), inX12, tyX12_ok, nmX12, rfl, rfl⟩
theorem gf_X12_160 : Gf RX12 160 12 69 (.array .boolean) true := ⟨RX12, TX12, 81, tyX12, rfl, by decide, wsG_6 133 (by decide +kernel) (by decide +kernel), inX12, tyX12_ok, nmX12, rfl, rfl⟩
theorem gf_X12_422 : Gf RX12 422 12 70 .int false := ⟨RX12, TX12, 81, tyX12, rfl, by decide, wsG_6 134 (by decide +kernel) (by decide +kernel), inX12, tyX12_ok, nmX12, rfl, rfl⟩
theorem gf_X12_458 : Gf RX12 458 12 71 .int false := ⟨RX12, TX12, 81, tyX12, rfl, by decide, wsG_6 135 (by decide +kernel) (by decide +kernel), inX12, tyX12_ok, nmX12, rfl, rfl⟩
theorem gf_X12_330 : Gf RX12 330 12 72 .int false := ⟨RX12, TX12, 81, tyX12, rfl, by decide, wsG_6 136 (by decide +kernel) (by decide +kernel), inX12, tyX12_ok, nmX12, rfl, rfl⟩
theorem gf_X12_440 : Gf RX12 440 12 73 .int false := ⟨RX12, TX12, 81, tyX12, rfl, by decide, wsG_6 137 (by decide +kernel) (by decide +kernel), inX12, tyX12_ok, nmX12, rfl, rfl⟩
theorem gf_X12_425 : Gf RX12 425 12 74 .int false := ⟨RX12, TX12, 81, tyX12, rfl, by decide, wsG_6 138 (by decide +kernel) (by decide +kernel), inX12, tyX12_ok, nmX12, rfl, rfl⟩
theorem gf_X12_428 : Gf RX12 428 12 75 .int false := ⟨RX12, TX12, 81, tyX12, rfl, by decide, wsG_6 139 (by decide +kernel) (by decide +kernel), inX12, tyX12_ok, nmX12, rfl, rfl⟩
theorem gf_X12_483 : Gf RX12 483 12 76 .int false := ⟨RX12, TX12, 81, tyX12, rfl, by decide, wsG_6 140 (by decide +kernel) (by decide +kernel), inX12, tyX12_ok, nmX12, rfl, rfl⟩
theorem gf_X12_486 : Gf RX12 486 12 77 .int false := ⟨RX12, TX12, 81, tyX12, rfl, by decide, wsG_6 141 (by decide +kernel) (by decide +kernel), inX12, tyX12_ok, nmX12, rfl, rfl⟩
theorem gf_X12_489 : Gf RX12 489 12 78 .int false := ⟨RX12, TX12, 81, tyX12, rfl, by decide, wsG_6 142 (by decide +kernel) (by decide +kernel), inX12, tyX12_ok, nmX12, rfl, rfl⟩
theorem gf_X12_492 : Gf RX12 492 12 79 .int false := ⟨RX12, TX12, 81, tyX12, rfl, by decide, wsG_6 143 (by decide +kernel) (by decide +kernel), inX12, tyX12_ok, nmX12, rfl, rfl⟩
theorem gf_X12_163 : Gf RX12 163 12 80 (.array .long) true := ⟨RX12, TX12, 81, tyX12, rfl, by decide, wsG_6 144 (by decide +kernel) (by decide +kernel), inX12, tyX12_ok, nmX12, rfl, rfl⟩
theorem yv_J0_length_8abf5 : Yv yJ0_length_8abf5 cJ0_length_8abf5 1 (some .int) 0 := ⟨wsG_1 40 (by decide +kernel) (by decide +kernel), wsG_1 41 (by decide +kernel) (by decide +kernel), wsG_1 3 (by decide +kernel) (by decide +kernel), wsG_1 42 (by decide +kernel) (by decide +kernel), by decide +kernel, by decide⟩
theorem yv_J0_coder_7d493 : Yv yJ0_coder_7d493 cJ0_coder_7d493 1 (some .byte) 0 := ⟨wsG_1 44 (by decide +kernel) (by decide +kernel), wsG_1 45 (by decide +kernel) (by decide +kernel), wsG_1 3 (by decide +kernel) (by decide +kernel), wsG_1 46 (by decide +kernel) (by decide +kernel), by decide +kernel, by decide⟩
theorem yv_J0_charAt_5068e : Yv yJ0_charAt_5068e cJ0_charAt_5068e 2 (some .char) 1 := ⟨wsG_1 50 (by decide +kernel) (by decide +kernel), wsG_1 51 (by decide +kernel) (by decide +kernel), wsG_1 3 (by decide +kernel) (by decide +kernel), wsG_1 52 (by decide +kernel) (by decide +kernel), by decide +kernel, by decide⟩
theorem yv_J0_isLatin1_aae02 : Yv yJ0_isLatin1_aae02 cJ0_isLatin1_aae02 1 (some .boolean) 0 := ⟨wsG_1 54 (by decide +kernel) (by decide +kernel), wsG_1 55 (by decide +kernel) (by decide +kernel), wsG_1 3 (by decide +kernel) (by decide +kernel), wsG_1 56 (by decide +kernel) (by decide +kernel), by decide +kernel, by decide⟩
theorem ys_J1_charAt_3b067 : Ys yJ1_charAt_3b067 cJ1_charAt_3b067 2 (some .char) 2 := ⟨wsG_1 58 (by decide +kernel) (by decide +kernel), wsG_1 4 (by decide +kernel) (by decide +kernel), wsG_1 59 (by decide +kernel) (by decide +kernel), by decide +kernel, by decide⟩
theorem ys_J0_checkIndex_df160 : Ys yJ0_checkIndex_df160 cJ0_checkIndex_df160 2 none 2 := ⟨wsG_1 61 (by decide +kernel) (by decide +kernel), wsG_1 3 (by decide +kernel) (by decide +kernel), wsG_1 62 (by decide +kernel) (by decide +kernel), by decide +kernel, by decide⟩
theorem ys_J3_checkIndex_8e157 : Ys yJ3_checkIndex_8e157 cJ3_checkIndex_8e157 3 (some .int) 3 := ⟨wsG_1 66 (by decide +kernel) (by decide +kernel), wsG_1 5 (by decide +kernel) (by decide +kernel), wsG_1 67 (by decide +kernel) (by decide +kernel), by decide +kernel, by decide⟩
theorem ys_J2_charAt_3b067 : Ys yJ2_charAt_3b067 cJ2_charAt_3b067 2 (some .char) 2 := ⟨wsG_1 69 (by decide +kernel) (by decide +kernel), wsG_1 6 (by decide +kernel) (by decide +kernel), wsG_1 70 (by decide +kernel) (by decide +kernel), by decide +kernel, by decide⟩
theorem ys_J2_checkIndex_2214a : Ys yJ2_checkIndex_2214a cJ2_checkIndex_2214a 2 none 2 := ⟨wsG_1 72 (by decide +kernel) (by decide +kernel), wsG_1 6 (by decide +kernel) (by decide +kernel), wsG_1 73 (by decide +kernel) (by decide +kernel), by decide +kernel, by decide⟩
theorem ys_J2_length_9d52b : Ys yJ2_length_9d52b cJ2_length_9d52b 1 (some .int) 1 := ⟨wsG_1 75 (by decide +kernel) (by decide +kernel), wsG_1 6 (by decide +kernel) (by decide +kernel), wsG_1 76 (by decide +kernel) (by decide +kernel), by decide +kernel, by decide⟩
theorem ys_J2_getChar_3b067 : Ys yJ2_getChar_3b067 cJ2_getChar_3b067 2 (some .char) 2 := ⟨wsG_1 79 (by decide +kernel) (by decide +kernel), wsG_1 6 (by decide +kernel) (by decide +kernel), wsG_1 80 (by decide +kernel) (by decide +kernel), by decide +kernel, by decide⟩
theorem ys_X9_longer : Ys yX9_longer cX9_longer 3 (some .long) 2 := ⟨wsG_1 88 (by decide +kernel) (by decide +kernel), wsG_1 2 (by decide +kernel) (by decide +kernel), wsG_1 89 (by decide +kernel) (by decide +kernel), by decide +kernel, by decide⟩
theorem yv_X11_feed : Yv yX11_feed cX11_feed 6 (some .int) 5 := ⟨wsG_3 77 (by decide +kernel) (by decide +kernel), wsG_3 78 (by decide +kernel) (by decide +kernel), wsG_1 1 (by decide +kernel) (by decide +kernel), wsG_3 79 (by decide +kernel) (by decide +kernel), by decide +kernel, by decide⟩
theorem yv_X11_put : Yv yX11_put cX11_put 3 none 1 := ⟨wsG_3 82 (by decide +kernel) (by decide +kernel), wsG_p 0 (by decide +kernel) (by decide +kernel), wsG_1 1 (by decide +kernel) (by decide +kernel), wsG_3 83 (by decide +kernel) (by decide +kernel), by decide +kernel, by decide⟩
theorem yv_X11_end : Yv yX11_end cX11_end 2 (some .int) 1 := ⟨wsG_3 85 (by decide +kernel) (by decide +kernel), wsG_3 86 (by decide +kernel) (by decide +kernel), wsG_1 1 (by decide +kernel) (by decide +kernel), wsG_3 87 (by decide +kernel) (by decide +kernel), by decide +kernel, by decide⟩
theorem yv_X11_hill : Yv yX11_hill cX11_hill 1 (some .int) 0 := ⟨wsG_3 89 (by decide +kernel) (by decide +kernel), wsG_3 90 (by decide +kernel) (by decide +kernel), wsG_1 1 (by decide +kernel) (by decide +kernel), wsG_3 91 (by decide +kernel) (by decide +kernel), by decide +kernel, by decide⟩
theorem yv_X9_open : Yv yX9_open cX9_open 3 none 2 := ⟨wsG_3 94 (by decide +kernel) (by decide +kernel), wsG_3 95 (by decide +kernel) (by decide +kernel), wsG_1 2 (by decide +kernel) (by decide +kernel), wsG_3 96 (by decide +kernel) (by decide +kernel), by decide +kernel, by decide⟩
theorem ys_J9_min_7cf53 : Ys yJ9_min_7cf53 cJ9_min_7cf53 2 (some .int) 2 := ⟨wsG_3 98 (by decide +kernel) (by decide +kernel), wsG_1 18 (by decide +kernel) (by decide +kernel), wsG_3 99 (by decide +kernel) (by decide +kernel), by decide +kernel, by decide⟩
theorem yv_X9_step : Yv yX9_step cX9_step 2 none 0 := ⟨wsG_3 101 (by decide +kernel) (by decide +kernel), wsG_3 102 (by decide +kernel) (by decide +kernel), wsG_1 2 (by decide +kernel) (by decide +kernel), wsG_3 103 (by decide +kernel) (by decide +kernel), by decide +kernel, by decide⟩
theorem yv_X9_takeWord : Yv yX9_takeWord cX9_takeWord 1 none 0 := ⟨wsG_3 106 (by decide +kernel) (by decide +kernel), wsG_p 1 (by decide +kernel) (by decide +kernel), wsG_1 2 (by decide +kernel) (by decide +kernel), wsG_3 107 (by decide +kernel) (by decide +kernel), by decide +kernel, by decide⟩
theorem yv_X9_kindOfWord : Yv yX9_kindOfWord cX9_kindOfWord 2 (some .int) 0 := ⟨wsG_3 110 (by decide +kernel) (by decide +kernel), wsG_p 2 (by decide +kernel) (by decide +kernel), wsG_1 2 (by decide +kernel) (by decide +kernel), wsG_3 111 (by decide +kernel) (by decide +kernel), by decide +kernel, by decide⟩
theorem yv_X9_takeNumber : Yv yX9_takeNumber cX9_takeNumber 2 none 0 := ⟨wsG_3 114 (by decide +kernel) (by decide +kernel), wsG_p 3 (by decide +kernel) (by decide +kernel), wsG_1 2 (by decide +kernel) (by decide +kernel), wsG_3 115 (by decide +kernel) (by decide +kernel), by decide +kernel, by decide⟩
theorem yv_J0_indexOf_0f7a4 : Yv yJ0_indexOf_0f7a4 cJ0_indexOf_0f7a4 2 (some .int) 1 := ⟨wsG_3 117 (by decide +kernel) (by decide +kernel), wsG_3 118 (by decide +kernel) (by decide +kernel), wsG_1 3 (by decide +kernel) (by decide +kernel), wsG_3 119 (by decide +kernel) (by decide +kernel), by decide +kernel, by decide⟩
theorem yv_J0_indexOf_7cf53 : Yv yJ0_indexOf_7cf53 cJ0_indexOf_7cf53 3 (some .int) 2 := ⟨wsG_3 121 (by decide +kernel) (by decide +kernel), wsG_3 122 (by decide +kernel) (by decide +kernel), wsG_1 3 (by decide +kernel) (by decide +kernel), wsG_3 123 (by decide +kernel) (by decide +kernel), by decide +kernel, by decide⟩
theorem ys_J1_indexOf_4cfef : Ys yJ1_indexOf_4cfef cJ1_indexOf_4cfef 4 (some .int) 4 := ⟨wsG_3 126 (by decide +kernel) (by decide +kernel), wsG_1 4 (by decide +kernel) (by decide +kernel), wsG_3 127 (by decide +kernel) (by decide +kernel), by decide +kernel, by decide⟩
theorem ys_J1_canEncode_9a6ad : Ys yJ1_canEncode_9a6ad cJ1_canEncode_9a6ad 1 (some .boolean) 1 := ⟨wsG_3 129 (by decide +kernel) (by decide +kernel), wsG_1 4 (by decide +kernel) (by decide +kernel), wsG_3 130 (by decide +kernel) (by decide +kernel), by decide +kernel, by decide⟩
theorem ys_J9_max_7cf53 : Ys yJ9_max_7cf53 cJ9_max_7cf53 2 (some .int) 2 := ⟨wsG_3 132 (by decide +kernel) (by decide +kernel), wsG_1 18 (by decide +kernel) (by decide +kernel), wsG_3 133 (by decide +kernel) (by decide +kernel), by decide +kernel, by decide⟩
theorem ys_J1_indexOfChar_4cfef : Ys yJ1_indexOfChar_4cfef cJ1_indexOfChar_4cfef 6 (some .int) 4 := ⟨wsG_3 136 (by decide +kernel) (by decide +kernel), wsG_1 4 (by decide +kernel) (by decide +kernel), wsG_3 137 (by decide +kernel) (by decide +kernel), by decide +kernel, by decide⟩
theorem ys_J2_indexOf_4cfef : Ys yJ2_indexOf_4cfef cJ2_indexOf_4cfef 4 (some .int) 4 := ⟨wsG_3 139 (by decide +kernel) (by decide +kernel), wsG_1 6 (by decide +kernel) (by decide +kernel), wsG_3 140 (by decide +kernel) (by decide +kernel), by decide +kernel, by decide⟩
theorem ys_J2_indexOfChar_4cfef : Ys yJ2_indexOfChar_4cfef cJ2_indexOfChar_4cfef 4 (some .int) 4 := ⟨wsG_3 145 (by decide +kernel) (by decide +kernel), wsG_1 6 (by decide +kernel) (by decide +kernel), wsG_3 146 (by decide +kernel) (by decide +kernel), by decide +kernel, by decide⟩
theorem ys_J2_checkBoundsBeginEnd_d044e : Ys yJ2_checkBoundsBeginEnd_d044e cJ2_checkBoundsBeginEnd_d044e 3 none 3 := ⟨wsG_3 148 (by decide +kernel) (by decide +kernel), wsG_1 6 (by decide +kernel) (by decide +kernel), wsG_3 149 (by decide +kernel) (by decide +kernel), by decide +kernel, by decide⟩
theorem ys_J0_checkBoundsBeginEnd_23922 : Ys yJ0_checkBoundsBeginEnd_23922 cJ0_checkBoundsBeginEnd_23922 3 none 3 := ⟨wsG_3 151 (by decide +kernel) (by decide +kernel), wsG_1 3 (by decide +kernel) (by decide +kernel), wsG_3 152 (by decide +kernel) (by decide +kernel), by decide +kernel, by decide⟩
theorem ys_J3_checkFromToIndex_8c36e : Ys yJ3_checkFromToIndex_8c36e cJ3_checkFromToIndex_8c36e 4 (some .int) 4 := ⟨wsG_3 154 (by decide +kernel) (by decide +kernel), wsG_1 5 (by decide +kernel) (by decide +kernel), wsG_3 155 (by decide +kernel) (by decide +kernel), by decide +kernel, by decide⟩
theorem ys_J2_indexOfCharUnsafe_4cfef : Ys yJ2_indexOfCharUnsafe_4cfef cJ2_indexOfCharUnsafe_4cfef 5 (some .int) 4 := ⟨wsG_3 157 (by decide +kernel) (by decide +kernel), wsG_1 6 (by decide +kernel) (by decide +kernel), wsG_3 158 (by decide +kernel) (by decide +kernel), by decide +kernel, by decide⟩
theorem ys_J2_indexOfSupplementary_4cfef : Ys yJ2_indexOfSupplementary_4cfef cJ2_indexOfSupplementary_4cfef 7 (some .int) 4 := ⟨wsG_3 160 (by decide +kernel) (by decide +kernel), wsG_1 6 (by decide +kernel) (by decide +kernel), wsG_3 161 (by decide +kernel) (by decide +kernel), by decide +kernel, by decide⟩
theorem ys_J11_isValidCodePoint_9a6ad : Ys yJ11_isValidCodePoint_9a6ad cJ11_isValidCodePoint_9a6ad 2 (some .boolean) 1 := ⟨wsG_3 163 (by decide +kernel) (by decide +kernel), wsG_1 19 (by decide +kernel) (by decide +kernel), wsG_3 164 (by decide +kernel) (by decide +kernel), by decide +kernel, by decide⟩
theorem ys_J11_highSurrogate_5068e : Ys yJ11_highSurrogate_5068e cJ11_highSurrogate_5068e 1 (some .char) 1 := ⟨wsG_3 166 (by decide +kernel) (by decide +kernel), wsG_1 19 (by decide +kernel) (by decide +kernel), wsG_3 167 (by decide +kernel) (by decide +kernel), by decide +kernel, by decide⟩
theorem ys_J11_lowSurrogate_5068e : Ys yJ11_lowSurrogate_5068e cJ11_lowSurrogate_5068e 1 (some .char) 1 := ⟨wsG_3 170 (by decide +kernel) (by decide +kernel), wsG_1 19 (by decide +kernel) (by decide +kernel), wsG_3 171 (by decide +kernel) (by decide +kernel), by decide +kernel, by decide⟩
theorem yv_X3_parse : Yv yX3_parse cX3_parse 3 none 0 := ⟨wsG_3 174 (by decide +kernel) (by decide +kernel), wsG_3 175 (by decide +kernel) (by decide +kernel), wsG_1 8 (by decide +kernel) (by decide +kernel), wsG_3 176 (by decide +kernel) (by decide +kernel), by decide +kernel, by decide⟩
theorem yv_X2_clear : Yv yX2_clear cX2_clear 1 none 0 := ⟨wsG_3 178 (by decide +kernel) (by decide +kernel), wsG_3 179 (by decide +kernel) (by decide +kernel), wsG_1 7 (by decide +kernel) (by decide +kernel), wsG_3 180 (by decide +kernel) (by decide +kernel), by decide +kernel, by decide⟩
theorem yv_X3_boxLine : Yv yX3_boxLine cX3_boxLine 8 none 0 := ⟨wsG_3 183 (by decide +kernel) (by decide +kernel), wsG_p 4 (by decide +kernel) (by decide +kernel), wsG_1 8 (by decide +kernel) (by decide +kernel), wsG_3 184 (by decide +kernel) (by decide +kernel), by decide +kernel, by decide⟩
theorem yv_X3_newName : Yv yX3_newName cX3_newName 2 none 1 := ⟨wsG_3 188 (by decide +kernel) (by decide +kernel), wsG_p 5 (by decide +kernel) (by decide +kernel), wsG_1 8 (by decide +kernel) (by decide +kernel), wsG_3 189 (by decide +kernel) (by decide +kernel), by decide +kernel, by decide⟩
theorem yv_X9_refuse : Yv yX9_refuse cX9_refuse 1 none 0 := ⟨wsG_3 191 (by decide +kernel) (by decide +kernel), wsG_3 192 (by decide +kernel) (by decide +kernel), wsG_1 2 (by decide +kernel) (by decide +kernel), wsG_3 193 (by decide +kernel) (by decide +kernel), by decide +kernel, by decide⟩
theorem yv_X9_fail : Yv yX9_fail cX9_fail 3 none 2 := ⟨wsG_3 195 (by decide +kernel) (by decide +kernel), wsG_3 196 (by decide +kernel) (by decide +kernel), wsG_1 2 (by decide +kernel) (by decide +kernel), wsG_3 197 (by decide +kernel) (by decide +kernel), by decide +kernel, by decide⟩
theorem yv_X2_find : Yv yX2_find cX2_find 4 (some .int) 1 := ⟨wsG_3 199 (by decide +kernel) (by decide +kernel), wsG_3 200 (by decide +kernel) (by decide +kernel), wsG_1 7 (by decide +kernel) (by decide +kernel), wsG_3 201 (by decide +kernel) (by decide +kernel), by decide +kernel, by decide⟩
theorem yv_X9_take : Yv yX9_take cX9_take 2 none 1 := ⟨wsG_3 208 (by decide +kernel) (by decide +kernel), wsG_3 209 (by decide +kernel) (by decide +kernel), wsG_1 2 (by decide +kernel) (by decide +kernel), wsG_3 210 (by decide +kernel) (by decide +kernel), by decide +kernel, by decide⟩
theorem yv_X3_takeNumber : Yv yX3_takeNumber cX3_takeNumber 7 (some .int) 3 := ⟨wsG_3 214 (by decide +kernel) (by decide +kernel), wsG_p 6 (by decide +kernel) (by decide +kernel), wsG_1 8 (by decide +kernel) (by decide +kernel), wsG_3 215 (by decide +kernel) (by decide +kernel), by decide +kernel, by decide⟩
theorem ys_X3_isOtherLine : Ys yX3_isOtherLine cX3_isOtherLine 1 (some .boolean) 1 := ⟨wsG_3 217 (by decide +kernel) (by decide +kernel), wsG_1 8 (by decide +kernel) (by decide +kernel), wsG_3 218 (by decide +kernel) (by decide +kernel), by decide +kernel, by decide⟩
theorem yv_X3_otherLine : Yv yX3_otherLine cX3_otherLine 4 none 1 := ⟨wsG_3 221 (by decide +kernel) (by decide +kernel), wsG_p 7 (by decide +kernel) (by decide +kernel), wsG_1 8 (by decide +kernel) (by decide +kernel), wsG_3 222 (by decide +kernel) (by decide +kernel), by decide +kernel, by decide⟩
theorem yv_X3_oldName : Yv yX3_oldName cX3_oldName 2 (some .int) 0 := ⟨wsG_3 225 (by decide +kernel) (by decide +kernel), wsG_p 8 (by decide +kernel) (by decide +kernel), wsG_1 8 (by decide +kernel) (by decide +kernel), wsG_3 226 (by decide +kernel) (by decide +kernel), by decide +kernel, by decide⟩
theorem yv_X11_closeText : Yv yX11_closeText cX11_closeText 1 none 0 := ⟨wsG_3 229 (by decide +kernel) (by decide +kernel), wsG_p 9 (by decide +kernel) (by decide +kernel), wsG_1 1 (by decide +kernel) (by decide +kernel), wsG_3 230 (by decide +kernel) (by decide +kernel), by decide +kernel, by decide⟩
theorem yv_X2_become : Yv yX2_become cX2_become 2 none 1 := ⟨wsG_3 232 (by decide +kernel) (by decide +kernel), wsG_3 233 (by decide +kernel) (by decide +kernel), wsG_1 7 (by decide +kernel) (by decide +kernel), wsG_3 234 (by decide +kernel) (by decide +kernel), by decide +kernel, by decide⟩
theorem yv_X6_clear : Yv yX6_clear cX6_clear 1 none 0 := ⟨wsG_3 239 (by decide +kernel) (by decide +kernel), wsG_4 0 (by decide +kernel) (by decide +kernel), wsG_1 9 (by decide +kernel) (by decide +kernel), wsG_4 1 (by decide +kernel) (by decide +kernel), by decide +kernel, by decide⟩
theorem yv_X1_clear : Yv yX1_clear cX1_clear 1 none 0 := ⟨wsG_4 3 (by decide +kernel) (by decide +kernel), wsG_4 4 (by decide +kernel) (by decide +kernel), wsG_1 11 (by decide +kernel) (by decide +kernel), wsG_4 5 (by decide +kernel) (by decide +kernel), by decide +kernel, by decide⟩
theorem yv_X11_rules : Yv yX11_rules cX11_rules 1 (some .int) 0 := ⟨wsG_4 7 (by decide +kernel) (by decide +kernel), wsG_4 8 (by decide +kernel) (by decide +kernel), wsG_1 1 (by decide +kernel) (by decide +kernel), wsG_4 9 (by decide +kernel) (by decide +kernel), by decide +kernel, by decide⟩
theorem yv_X7_parse : Yv yX7_parse cX7_parse 2 none 0 := ⟨wsG_4 12 (by decide +kernel) (by decide +kernel), wsG_4 13 (by decide +kernel) (by decide +kernel), wsG_1 10 (by decide +kernel) (by decide +kernel), wsG_4 14 (by decide +kernel) (by decide +kernel), by decide +kernel, by decide⟩
theorem yv_X7_oneRule : Yv yX7_oneRule cX7_oneRule 2 none 0 := ⟨wsG_4 19 (by decide +kernel) (by decide +kernel), wsG_p 10 (by decide +kernel) (by decide +kernel), wsG_1 10 (by decide +kernel) (by decide +kernel), wsG_4 20 (by decide +kernel) (by decide +kernel), by decide +kernel, by decide⟩
theorem yv_X7_either : Yv yX7_either cX7_either 3 none 1 := ⟨wsG_4 24 (by decide +kernel) (by decide +kernel), wsG_p 11 (by decide +kernel) (by decide +kernel), wsG_1 10 (by decide +kernel) (by decide +kernel), wsG_4 25 (by decide +kernel) (by decide +kernel), by decide +kernel, by decide⟩
theorem yv_X7_both : Yv yX7_both cX7_both 3 none 1 := ⟨wsG_4 28 (by decide +kernel) (by decide +kernel), wsG_p 12 (by decide +kernel) (by decide +kernel), wsG_1 10 (by decide +kernel) (by decide +kernel), wsG_4 29 (by decide +kernel) (by decide +kernel), by decide +kernel, by decide⟩
theorem yv_X7_one : Yv yX7_one cX7_one 3 none 1 := ⟨wsG_4 32 (by decide +kernel) (by decide +kernel), wsG_p 13 (by decide +kernel) (by decide +kernel), wsG_1 10 (by decide +kernel) (by decide +kernel), wsG_4 33 (by decide +kernel) (by decide +kernel), by decide +kernel, by decide⟩
theorem yv_X6_addStep : Yv yX6_addStep cX6_addStep 3 none 2 := ⟨wsG_4 35 (by decide +kernel) (by decide +kernel), wsG_4 36 (by decide +kernel) (by decide +kernel), wsG_1 9 (by decide +kernel) (by decide +kernel), wsG_4 37 (by decide +kernel) (by decide +kernel), by decide +kernel, by decide⟩
theorem yv_X7_addition : Yv yX7_addition cX7_addition 4 none 1 := ⟨wsG_4 40 (by decide +kernel) (by decide +kernel), wsG_p 14 (by decide +kernel) (by decide +kernel), wsG_1 10 (by decide +kernel) (by decide +kernel), wsG_4 41 (by decide +kernel) (by decide +kernel), by decide +kernel, by decide⟩
theorem yv_X7_term : Yv yX7_term cX7_term 3 none 1 := ⟨wsG_4 44 (by decide +kernel) (by decide +kernel), wsG_p 15 (by decide +kernel) (by decide +kernel), wsG_1 10 (by decide +kernel) (by decide +kernel), wsG_4 45 (by decide +kernel) (by decide +kernel), by decide +kernel, by decide⟩
theorem yv_X7_unit : Yv yX7_unit cX7_unit 3 none 1 := ⟨wsG_4 48 (by decide +kernel) (by decide +kernel), wsG_p 16 (by decide +kernel) (by decide +kernel), wsG_1 10 (by decide +kernel) (by decide +kernel), wsG_4 49 (by decide +kernel) (by decide +kernel), by decide +kernel, by decide⟩
theorem yv_X7_name : Yv yX7_name cX7_name 3 none 1 := ⟨wsG_4 52 (by decide +kernel) (by decide +kernel), wsG_p 17 (by decide +kernel) (by decide +kernel), wsG_1 10 (by decide +kernel) (by decide +kernel), wsG_4 53 (by decide +kernel) (by decide +kernel), by decide +kernel, by decide⟩
theorem yv_X6_close : Yv yX6_close cX6_close 2 none 1 := ⟨wsG_4 58 (by decide +kernel) (by decide +kernel), wsG_4 59 (by decide +kernel) (by decide +kernel), wsG_1 9 (by decide +kernel) (by decide +kernel), wsG_4 60 (by decide +kernel) (by decide +kernel), by decide +kernel, by decide⟩
theorem yv_X6_become : Yv yX6_become cX6_become 2 none 1 := ⟨wsG_4 62 (by decide +kernel) (by decide +kernel), wsG_4 63 (by decide +kernel) (by decide +kernel), wsG_1 9 (by decide +kernel) (by decide +kernel), wsG_4 64 (by decide +kernel) (by decide +kernel), by decide +kernel, by decide⟩
theorem yv_X11_fault : Yv yX11_fault cX11_fault 2 (some .int) 1 := ⟨wsG_4 67 (by decide +kernel) (by decide +kernel), wsG_4 68 (by decide +kernel) (by decide +kernel), wsG_1 1 (by decide +kernel) (by decide +kernel), wsG_4 69 (by decide +kernel) (by decide +kernel), by decide +kernel, by decide⟩
theorem yv_X11_share : Yv yX11_share cX11_share 3 (some .boolean) 2 := ⟨wsG_4 71 (by decide +kernel) (by decide +kernel), wsG_4 72 (by decide +kernel) (by decide +kernel), wsG_1 1 (by decide +kernel) (by decide +kernel), wsG_4 73 (by decide +kernel) (by decide +kernel), by decide +kernel, by decide⟩
theorem ys_X11_isDay : Ys yX11_isDay cX11_isDay 1 (some .boolean) 1 := ⟨wsG_4 75 (by decide +kernel) (by decide +kernel), wsG_1 1 (by decide +kernel) (by decide +kernel), wsG_4 76 (by decide +kernel) (by decide +kernel), by decide +kernel, by decide⟩
theorem yv_X1_setShared : Yv yX1_setShared cX1_setShared 3 (some .boolean) 2 := ⟨wsG_4 78 (by decide +kernel) (by decide +kernel), wsG_4 79 (by decide +kernel) (by decide +kernel), wsG_1 11 (by decide +kernel) (by decide +kernel), wsG_4 80 (by decide +kernel) (by decide +kernel), by decide +kernel, by decide⟩
theorem yv_X1_isShared : Yv yX1_isShared cX1_isShared 2 (some .boolean) 1 := ⟨wsG_4 82 (by decide +kernel) (by decide +kernel), wsG_4 83 (by decide +kernel) (by decide +kernel), wsG_1 11 (by decide +kernel) (by decide +kernel), wsG_4 84 (by decide +kernel) (by decide +kernel), by decide +kernel, by decide⟩
theorem yv_X11_far : Yv yX11_far cX11_far 4 (some .int) 3 := ⟨wsG_4 86 (by decide +kernel) (by decide +kernel), wsG_4 87 (by decide +kernel) (by decide +kernel), wsG_1 1 (by decide +kernel) (by decide +kernel), wsG_4 88 (by decide +kernel) (by decide +kernel), by decide +kernel, by decide⟩
theorem ys_X11_isQuantity : Ys yX11_isQuantity cX11_isQuantity 1 (some .boolean) 1 := ⟨wsG_4 90 (by decide +kernel) (by decide +kernel), wsG_1 1 (by decide +kernel) (by decide +kernel), wsG_4 91 (by decide +kernel) (by decide +kernel), by decide +kernel, by decide⟩
theorem yv_X1_tell : Yv yX1_tell cX1_tell 6 (some .int) 4 := ⟨wsG_4 97 (by decide +kernel) (by decide +kernel), wsG_4 98 (by decide +kernel) (by decide +kernel), wsG_1 11 (by decide +kernel) (by decide +kernel), wsG_4 99 (by decide +kernel) (by decide +kernel), by decide +kernel, by decide⟩
theorem yv_X11_read : Yv yX11_read cX11_read 6 (some .int) 4 := ⟨wsG_4 101 (by decide +kernel) (by decide +kernel), wsG_4 102 (by decide +kernel) (by decide +kernel), wsG_1 1 (by decide +kernel) (by decide +kernel), wsG_4 103 (by decide +kernel) (by decide +kernel), by decide +kernel, by decide⟩
theorem yv_X11_isSpot : Yv yX11_isSpot cX11_isSpot 3 (some .boolean) 2 := ⟨wsG_4 106 (by decide +kernel) (by decide +kernel), wsG_p 18 (by decide +kernel) (by decide +kernel), wsG_1 1 (by decide +kernel) (by decide +kernel), wsG_4 107 (by decide +kernel) (by decide +kernel), by decide +kernel, by decide⟩
theorem yv_X2_has : Yv yX2_has cX2_has 2 (some .boolean) 1 := ⟨wsG_4 109 (by decide +kernel) (by decide +kernel), wsG_4 110 (by decide +kernel) (by decide +kernel), wsG_1 7 (by decide +kernel) (by decide +kernel), wsG_4 111 (by decide +kernel) (by decide +kernel), by decide +kernel, by decide⟩
theorem ys_X11_isReader : Ys yX11_isReader cX11_isReader 1 (some .boolean) 1 := ⟨wsG_4 113 (by decide +kernel) (by decide +kernel), wsG_1 1 (by decide +kernel) (by decide +kernel), wsG_4 114 (by decide +kernel) (by decide +kernel), by decide +kernel, by decide⟩
theorem yv_X2_isWind : Yv yX2_isWind cX2_isWind 2 (some .boolean) 1 := ⟨wsG_4 116 (by decide +kernel) (by decide +kernel), wsG_4 117 (by decide +kernel) (by decide +kernel), wsG_1 7 (by decide +kernel) (by decide +kernel), wsG_4 118 (by decide +kernel) (by decide +kernel), by decide +kernel, by decide⟩
theorem yv_X11_doubt : Yv yX11_doubt cX11_doubt 3 (some .boolean) 2 := ⟨wsG_4 120 (by decide +kernel) (by decide +kernel), wsG_4 121 (by decide +kernel) (by decide +kernel), wsG_1 1 (by decide +kernel) (by decide +kernel), wsG_4 122 (by decide +kernel) (by decide +kernel), by decide +kernel, by decide⟩
theorem yv_X1_setDoubted : Yv yX1_setDoubted cX1_setDoubted 3 (some .boolean) 2 := ⟨wsG_4 124 (by decide +kernel) (by decide +kernel), wsG_4 125 (by decide +kernel) (by decide +kernel), wsG_1 11 (by decide +kernel) (by decide +kernel), wsG_4 126 (by decide +kernel) (by decide +kernel), by decide +kernel, by decide⟩
theorem yv_X1_isDoubted : Yv yX1_isDoubted cX1_isDoubted 2 (some .boolean) 1 := ⟨wsG_4 128 (by decide +kernel) (by decide +kernel), wsG_4 129 (by decide +kernel) (by decide +kernel), wsG_1 11 (by decide +kernel) (by decide +kernel), wsG_4 130 (by decide +kernel) (by decide +kernel), by decide +kernel, by decide⟩
theorem yv_X11_untell : Yv yX11_untell cX11_untell 2 (some .boolean) 1 := ⟨wsG_4 132 (by decide +kernel) (by decide +kernel), wsG_4 133 (by decide +kernel) (by decide +kernel), wsG_1 1 (by decide +kernel) (by decide +kernel), wsG_4 134 (by decide +kernel) (by decide +kernel), by decide +kernel, by decide⟩
theorem yv_X1_takeBack : Yv yX1_takeBack cX1_takeBack 2 (some .boolean) 1 := ⟨wsG_4 136 (by decide +kernel) (by decide +kernel), wsG_4 137 (by decide +kernel) (by decide +kernel), wsG_1 11 (by decide +kernel) (by decide +kernel), wsG_4 138 (by decide +kernel) (by decide +kernel), by decide +kernel, by decide⟩
theorem yv_X11_later : Yv yX11_later cX11_later 2 (some .int) 1 := ⟨wsG_4 140 (by decide +kernel) (by decide +kernel), wsG_4 141 (by decide +kernel) (by decide +kernel), wsG_1 1 (by decide +kernel) (by decide +kernel), wsG_4 142 (by decide +kernel) (by decide +kernel), by decide +kernel, by decide⟩
theorem yv_X1_goOn : Yv yX1_goOn cX1_goOn 2 (some .int) 1 := ⟨wsG_4 144 (by decide +kernel) (by decide +kernel), wsG_4 145 (by decide +kernel) (by decide +kernel), wsG_1 11 (by decide +kernel) (by decide +kernel), wsG_4 146 (by decide +kernel) (by decide +kernel), by decide +kernel, by decide⟩
theorem yv_X11_farOf : Yv yX11_farOf cX11_farOf 4 (some .int) 3 := ⟨wsG_4 149 (by decide +kernel) (by decide +kernel), wsG_4 150 (by decide +kernel) (by decide +kernel), wsG_1 1 (by decide +kernel) (by decide +kernel), wsG_4 151 (by decide +kernel) (by decide +kernel), by decide +kernel, by decide⟩
theorem yv_X4_at : Yv yX4_at cX4_at 3 none 1 := ⟨wsG_4 153 (by decide +kernel) (by decide +kernel), wsG_4 154 (by decide +kernel) (by decide +kernel), wsG_1 12 (by decide +kernel) (by decide +kernel), wsG_4 155 (by decide +kernel) (by decide +kernel), by decide +kernel, by decide⟩
theorem ys_J7_fill_53178 : Ys yJ7_fill_53178 cJ7_fill_53178 4 none 2 := ⟨wsG_4 158 (by decide +kernel) (by decide +kernel), wsG_1 21 (by decide +kernel) (by decide +kernel), wsG_4 159 (by decide +kernel) (by decide +kernel), by decide +kernel, by decide⟩
theorem yv_X1_isKnown : Yv yX1_isKnown cX1_isKnown 3 (some .boolean) 2 := ⟨wsG_4 161 (by decide +kernel) (by decide +kernel), wsG_4 162 (by decide +kernel) (by decide +kernel), wsG_1 11 (by decide +kernel) (by decide +kernel), wsG_4 163 (by decide +kernel) (by decide +kernel), by decide +kernel, by decide⟩
theorem yv_X4_enter : Yv yX4_enter cX4_enter 6 none 1 := ⟨wsG_4 166 (by decide +kernel) (by decide +kernel), wsG_p 19 (by decide +kernel) (by decide +kernel), wsG_1 12 (by decide +kernel) (by decide +kernel), wsG_4 167 (by decide +kernel) (by decide +kernel), by decide +kernel, by decide⟩
theorem yv_X2_canRead : Yv yX2_canRead cX2_canRead 3 (some .boolean) 2 := ⟨wsG_4 170 (by decide +kernel) (by decide +kernel), wsG_4 171 (by decide +kernel) (by decide +kernel), wsG_1 7 (by decide +kernel) (by decide +kernel), wsG_4 172 (by decide +kernel) (by decide +kernel), by decide +kernel, by decide⟩
theorem yv_X2_isWithin : Yv yX2_isWithin cX2_isWithin 5 (some .boolean) 3 := ⟨wsG_4 175 (by decide +kernel) (by decide +kernel), wsG_p 20 (by decide +kernel) (by decide +kernel), wsG_1 7 (by decide +kernel) (by decide +kernel), wsG_4 176 (by decide +kernel) (by decide +kernel), by decide +kernel, by decide⟩
theorem yv_X2_isOf : Yv yX2_isOf cX2_isOf 4 (some .boolean) 3 := ⟨wsG_4 179 (by decide +kernel) (by decide +kernel), wsG_p 21 (by decide +kernel) (by decide +kernel), wsG_1 7 (by decide +kernel) (by decide +kernel), wsG_4 180 (by decide +kernel) (by decide +kernel), by decide +kernel, by decide⟩
theorem yv_X4_distant : Yv yX4_distant cX4_distant 4 (some .int) 2 := ⟨wsG_4 182 (by decide +kernel) (by decide +kernel), wsG_4 183 (by decide +kernel) (by decide +kernel), wsG_1 12 (by decide +kernel) (by decide +kernel), wsG_4 184 (by decide +kernel) (by decide +kernel), by decide +kernel, by decide⟩
theorem yv_X11_reading : Yv yX11_reading cX11_reading 4 (some .int) 3 := ⟨wsG_4 186 (by decide +kernel) (by decide +kernel), wsG_4 187 (by decide +kernel) (by decide +kernel), wsG_1 1 (by decide +kernel) (by decide +kernel), wsG_4 188 (by decide +kernel) (by decide +kernel), by decide +kernel, by decide⟩
theorem yv_X4_number : Yv yX4_number cX4_number 4 (some .int) 2 := ⟨wsG_4 190 (by decide +kernel) (by decide +kernel), wsG_4 191 (by decide +kernel) (by decide +kernel), wsG_1 12 (by decide +kernel) (by decide +kernel), wsG_4 192 (by decide +kernel) (by decide +kernel), by decide +kernel, by decide⟩
theorem yv_X11_laws : Yv yX11_laws cX11_laws 4 (some .int) 3 := ⟨wsG_4 194 (by decide +kernel) (by decide +kernel), wsG_4 195 (by decide +kernel) (by decide +kernel), wsG_1 1 (by decide +kernel) (by decide +kernel), wsG_4 196 (by decide +kernel) (by decide +kernel), by decide +kernel, by decide⟩
theorem yv_X11_fitted : Yv yX11_fitted cX11_fitted 4 (some .boolean) 3 := ⟨wsG_4 199 (by decide +kernel) (by decide +kernel), wsG_p 22 (by decide +kernel) (by decide +kernel), wsG_1 1 (by decide +kernel) (by decide +kernel), wsG_4 200 (by decide +kernel) (by decide +kernel), by decide +kernel, by decide⟩
theorem yv_X5_fit : Yv yX5_fit cX5_fit 5 none 1 := ⟨wsG_4 202 (by decide +kernel) (by decide +kernel), wsG_4 203 (by decide +kernel) (by decide +kernel), wsG_1 13 (by decide +kernel) (by decide +kernel), wsG_4 204 (by decide +kernel) (by decide +kernel), by decide +kernel, by decide⟩
theorem yv_X2_firstDay : Yv yX2_firstDay cX2_firstDay 5 (some .int) 2 := ⟨wsG_4 206 (by decide +kernel) (by decide +kernel), wsG_4 207 (by decide +kernel) (by decide +kernel), wsG_1 7 (by decide +kernel) (by decide +kernel), wsG_4 208 (by decide +kernel) (by decide +kernel), by decide +kernel, by decide⟩
theorem yv_X2_lastDay : Yv yX2_lastDay cX2_lastDay 5 (some .int) 2 := ⟨wsG_4 211 (by decide +kernel) (by decide +kernel), wsG_4 212 (by decide +kernel) (by decide +kernel), wsG_1 7 (by decide +kernel) (by decide +kernel), wsG_4 213 (by decide +kernel) (by decide +kernel), by decide +kernel, by decide⟩
theorem yv_X5_listBends : Yv yX5_listBends cX5_listBends 4 none 0 := ⟨wsG_4 217 (by decide +kernel) (by decide +kernel), wsG_p 23 (by decide +kernel) (by decide +kernel), wsG_1 13 (by decide +kernel) (by decide +kernel), wsG_4 218 (by decide +kernel) (by decide +kernel), by decide +kernel, by decide⟩
theorem yv_X2_low : Yv yX2_low cX2_low 3 (some .int) 2 := ⟨wsG_4 220 (by decide +kernel) (by decide +kernel), wsG_4 221 (by decide +kernel) (by decide +kernel), wsG_1 7 (by decide +kernel) (by decide +kernel), wsG_4 222 (by decide +kernel) (by decide +kernel), by decide +kernel, by decide⟩
theorem yv_X2_high : Yv yX2_high cX2_high 3 (some .int) 2 := ⟨wsG_4 224 (by decide +kernel) (by decide +kernel), wsG_4 225 (by decide +kernel) (by decide +kernel), wsG_1 7 (by decide +kernel) (by decide +kernel), wsG_4 226 (by decide +kernel) (by decide +kernel), by decide +kernel, by decide⟩
theorem yv_X5_tryDay : Yv yX5_tryDay cX5_tryDay 8 (some .int) 2 := ⟨wsG_4 233 (by decide +kernel) (by decide +kernel), wsG_p 24 (by decide +kernel) (by decide +kernel), wsG_1 13 (by decide +kernel) (by decide +kernel), wsG_4 234 (by decide +kernel) (by decide +kernel), by decide +kernel, by decide⟩
theorem yv_X2_age : Yv yX2_age cX2_age 6 (some .int) 2 := ⟨wsG_4 236 (by decide +kernel) (by decide +kernel), wsG_4 237 (by decide +kernel) (by decide +kernel), wsG_1 7 (by decide +kernel) (by decide +kernel), wsG_4 238 (by decide +kernel) (by decide +kernel), by decide +kernel, by decide⟩
theorem yv_X5_withoutZero : Yv yX5_withoutZero cX5_withoutZero 5 (some .int) 3 := ⟨wsG_5 1 (by decide +kernel) (by decide +kernel), wsG_p 25 (by decide +kernel) (by decide +kernel), wsG_1 13 (by decide +kernel) (by decide +kernel), wsG_5 2 (by decide +kernel) (by decide +kernel), by decide +kernel, by decide⟩
theorem ys_X5_lagOf : Ys yX5_lagOf cX5_lagOf 1 (some .int) 1 := ⟨wsG_5 4 (by decide +kernel) (by decide +kernel), wsG_1 13 (by decide +kernel) (by decide +kernel), wsG_5 5 (by decide +kernel) (by decide +kernel), by decide +kernel, by decide⟩
theorem ys_X5_slopeOf : Ys yX5_slopeOf cX5_slopeOf 1 (some .int) 1 := ⟨wsG_5 8 (by decide +kernel) (by decide +kernel), wsG_1 13 (by decide +kernel) (by decide +kernel), wsG_5 9 (by decide +kernel) (by decide +kernel), by decide +kernel, by decide⟩
theorem ys_J9_floorDiv_7cf53 : Ys yJ9_floorDiv_7cf53 cJ9_floorDiv_7cf53 3 (some .int) 2 := ⟨wsG_5 11 (by decide +kernel) (by decide +kernel), wsG_1 18 (by decide +kernel) (by decide +kernel), wsG_5 12 (by decide +kernel) (by decide +kernel), by decide +kernel, by decide⟩
theorem ys_X5_tireOf : Ys yX5_tireOf cX5_tireOf 1 (some .int) 1 := ⟨wsG_5 14 (by decide +kernel) (by decide +kernel), wsG_1 13 (by decide +kernel) (by decide +kernel), wsG_5 15 (by decide +kernel) (by decide +kernel), by decide +kernel, by decide⟩
theorem yv_X2_fits : Yv yX2_fits cX2_fits 5 (some .boolean) 3 := ⟨wsG_5 17 (by decide +kernel) (by decide +kernel), wsG_5 18 (by decide +kernel) (by decide +kernel), wsG_1 7 (by decide +kernel) (by decide +kernel), wsG_5 19 (by decide +kernel) (by decide +kernel), by decide +kernel, by decide⟩
theorem ys_J9_abs_0f7a4 : Ys yJ9_abs_0f7a4 cJ9_abs_0f7a4 1 (some .int) 1 := ⟨wsG_5 21 (by decide +kernel) (by decide +kernel), wsG_1 18 (by decide +kernel) (by decide +kernel), wsG_5 22 (by decide +kernel) (by decide +kernel), by decide +kernel, by decide⟩
theorem yv_X5_choose : Yv yX5_choose cX5_choose 5 none 0 := ⟨wsG_5 26 (by decide +kernel) (by decide +kernel), wsG_p 26 (by decide +kernel) (by decide +kernel), wsG_1 13 (by decide +kernel) (by decide +kernel), wsG_5 27 (by decide +kernel) (by decide +kernel), by decide +kernel, by decide⟩
theorem yv_X11_law : Yv yX11_law cX11_law 6 (some .int) 5 := ⟨wsG_5 30 (by decide +kernel) (by decide +kernel), wsG_5 31 (by decide +kernel) (by decide +kernel), wsG_1 1 (by decide +kernel) (by decide +kernel), wsG_5 32 (by decide +kernel) (by decide +kernel), by decide +kernel, by decide⟩
theorem ys_X5_part : Ys yX5_part cX5_part 2 (some .int) 2 := ⟨wsG_5 35 (by decide +kernel) (by decide +kernel), wsG_1 13 (by decide +kernel) (by decide +kernel), wsG_5 36 (by decide +kernel) (by decide +kernel), by decide +kernel, by decide⟩
theorem ys_X5_zeroOf : Ys yX5_zeroOf cX5_zeroOf 1 (some .int) 1 := ⟨wsG_5 38 (by decide +kernel) (by decide +kernel), wsG_1 13 (by decide +kernel) (by decide +kernel), wsG_5 39 (by decide +kernel) (by decide +kernel), by decide +kernel, by decide⟩
theorem yv_X11_misses : Yv yX11_misses cX11_misses 4 (some .int) 3 := ⟨wsG_5 41 (by decide +kernel) (by decide +kernel), wsG_5 42 (by decide +kernel) (by decide +kernel), wsG_1 1 (by decide +kernel) (by decide +kernel), wsG_5 43 (by decide +kernel) (by decide +kernel), by decide +kernel, by decide⟩
theorem yv_X11_shows : Yv yX11_shows cX11_shows 4 (some .int) 3 := ⟨wsG_5 45 (by decide +kernel) (by decide +kernel), wsG_5 46 (by decide +kernel) (by decide +kernel), wsG_1 1 (by decide +kernel) (by decide +kernel), wsG_5 47 (by decide +kernel) (by decide +kernel), by decide +kernel, by decide⟩
theorem yv_X5_byFirst : Yv yX5_byFirst cX5_byFirst 2 (some .int) 1 := ⟨wsG_5 49 (by decide +kernel) (by decide +kernel), wsG_5 50 (by decide +kernel) (by decide +kernel), wsG_1 13 (by decide +kernel) (by decide +kernel), wsG_5 51 (by decide +kernel) (by decide +kernel), by decide +kernel, by decide⟩
theorem yv_X5_by : Yv yX5_by cX5_by 6 (some .int) 3 := ⟨wsG_5 54 (by decide +kernel) (by decide +kernel), wsG_p 27 (by decide +kernel) (by decide +kernel), wsG_1 13 (by decide +kernel) (by decide +kernel), wsG_5 55 (by decide +kernel) (by decide +kernel), by decide +kernel, by decide⟩
theorem ys_J9_floorMod_7cf53 : Ys yJ9_floorMod_7cf53 cJ9_floorMod_7cf53 3 (some .int) 2 := ⟨wsG_5 58 (by decide +kernel) (by decide +kernel), wsG_1 18 (by decide +kernel) (by decide +kernel), wsG_5 59 (by decide +kernel) (by decide +kernel), by decide +kernel, by decide⟩
theorem yv_X11_frost : Yv yX11_frost cX11_frost 4 (some .int) 3 := ⟨wsG_5 61 (by decide +kernel) (by decide +kernel), wsG_5 62 (by decide +kernel) (by decide +kernel), wsG_1 1 (by decide +kernel) (by decide +kernel), wsG_5 63 (by decide +kernel) (by decide +kernel), by decide +kernel, by decide⟩
theorem yv_X11_shown : Yv yX11_shown cX11_shown 5 (some .int) 4 := ⟨wsG_5 65 (by decide +kernel) (by decide +kernel), wsG_5 66 (by decide +kernel) (by decide +kernel), wsG_1 1 (by decide +kernel) (by decide +kernel), wsG_5 67 (by decide +kernel) (by decide +kernel), by decide +kernel, by decide⟩
theorem yv_X5_extreme : Yv yX5_extreme cX5_extreme 8 (some .int) 2 := ⟨wsG_5 69 (by decide +kernel) (by decide +kernel), wsG_5 70 (by decide +kernel) (by decide +kernel), wsG_1 13 (by decide +kernel) (by decide +kernel), wsG_5 71 (by decide +kernel) (by decide +kernel), by decide +kernel, by decide⟩
theorem yv_X11_wrong : Yv yX11_wrong cX11_wrong 4 (some .int) 3 := ⟨wsG_5 73 (by decide +kernel) (by decide +kernel), wsG_5 74 (by decide +kernel) (by decide +kernel), wsG_1 1 (by decide +kernel) (by decide +kernel), wsG_5 75 (by decide +kernel) (by decide +kernel), by decide +kernel, by decide⟩
theorem yv_X0_look : Yv yX0_look cX0_look 6 none 2 := ⟨wsG_5 77 (by decide +kernel) (by decide +kernel), wsG_5 78 (by decide +kernel) (by decide +kernel), wsG_1 15 (by decide +kernel) (by decide +kernel), wsG_5 79 (by decide +kernel) (by decide +kernel), by decide +kernel, by decide⟩
theorem yv_X0_kindOf : Yv yX0_kindOf cX0_kindOf 6 (some .int) 2 := ⟨wsG_5 85 (by decide +kernel) (by decide +kernel), wsG_5 86 (by decide +kernel) (by decide +kernel), wsG_1 15 (by decide +kernel) (by decide +kernel), wsG_5 87 (by decide +kernel) (by decide +kernel), by decide +kernel, by decide⟩
theorem yv_X0_isInAnotherRow : Yv yX0_isInAnotherRow cX0_isInAnotherRow 9 (some .boolean) 3 := ⟨wsG_5 92 (by decide +kernel) (by decide +kernel), wsG_p 28 (by decide +kernel) (by decide +kernel), wsG_1 15 (by decide +kernel) (by decide +kernel), wsG_5 93 (by decide +kernel) (by decide +kernel), by decide +kernel, by decide⟩
theorem yv_X11_habit : Yv yX11_habit cX11_habit 4 (some .int) 2 := ⟨wsG_5 95 (by decide +kernel) (by decide +kernel), wsG_5 96 (by decide +kernel) (by decide +kernel), wsG_1 1 (by decide +kernel) (by decide +kernel), wsG_5 97 (by decide +kernel) (by decide +kernel), by decide +kernel, by decide⟩
theorem yv_X0_worst : Yv yX0_worst cX0_worst 4 (some .int) 0 := ⟨wsG_5 99 (by decide +kernel) (by decide +kernel), wsG_5 100 (by decide +kernel) (by decide +kernel), wsG_1 15 (by decide +kernel) (by decide +kernel), wsG_5 101 (by decide +kernel) (by decide +kernel), by decide +kernel, by decide⟩
theorem yv_X0_count : Yv yX0_count cX0_count 5 none 0 := ⟨wsG_5 104 (by decide +kernel) (by decide +kernel), wsG_p 29 (by decide +kernel) (by decide +kernel), wsG_1 15 (by decide +kernel) (by decide +kernel), wsG_5 105 (by decide +kernel) (by decide +kernel), by decide +kernel, by decide⟩
theorem yv_X4_readerOf : Yv yX4_readerOf cX4_readerOf 4 (some .int) 2 := ⟨wsG_5 109 (by decide +kernel) (by decide +kernel), wsG_5 110 (by decide +kernel) (by decide +kernel), wsG_1 12 (by decide +kernel) (by decide +kernel), wsG_5 111 (by decide +kernel) (by decide +kernel), by decide +kernel, by decide⟩
theorem yv_X11_right : Yv yX11_right cX11_right 5 (some .int) 4 := ⟨wsG_5 114 (by decide +kernel) (by decide +kernel), wsG_5 115 (by decide +kernel) (by decide +kernel), wsG_1 1 (by decide +kernel) (by decide +kernel), wsG_5 116 (by decide +kernel) (by decide +kernel), by decide +kernel, by decide⟩
theorem yv_X8_find : Yv yX8_find cX8_find 5 (some .boolean) 2 := ⟨wsG_5 118 (by decide +kernel) (by decide +kernel), wsG_5 119 (by decide +kernel) (by decide +kernel), wsG_1 14 (by decide +kernel) (by decide +kernel), wsG_5 120 (by decide +kernel) (by decide +kernel), by decide +kernel, by decide⟩
theorem yv_X8_widen : Yv yX8_widen cX8_widen 9 none 4 := ⟨wsG_5 128 (by decide +kernel) (by decide +kernel), wsG_p 30 (by decide +kernel) (by decide +kernel), wsG_1 14 (by decide +kernel) (by decide +kernel), wsG_5 129 (by decide +kernel) (by decide +kernel), by decide +kernel, by decide⟩
theorem yv_X8_widenRound : Yv yX8_widenRound cX8_widenRound 5 none 3 := ⟨wsG_5 137 (by decide +kernel) (by decide +kernel), wsG_p 31 (by decide +kernel) (by decide +kernel), wsG_1 14 (by decide +kernel) (by decide +kernel), wsG_5 138 (by decide +kernel) (by decide +kernel), by decide +kernel, by decide⟩
theorem yv_X8_include : Yv yX8_include cX8_include 3 none 2 := ⟨wsG_5 143 (by decide +kernel) (by decide +kernel), wsG_p 32 (by decide +kernel) (by decide +kernel), wsG_1 14 (by decide +kernel) (by decide +kernel), wsG_5 144 (by decide +kernel) (by decide +kernel), by decide +kernel, by decide⟩
theorem yv_X8_widenStraight : Yv yX8_widenStraight cX8_widenStraight 9 none 4 := ⟨wsG_5 150 (by decide +kernel) (by decide +kernel), wsG_p 33 (by decide +kernel) (by decide +kernel), wsG_1 14 (by decide +kernel) (by decide +kernel), wsG_5 151 (by decide +kernel) (by decide +kernel), by decide +kernel, by decide⟩
theorem ys_X8_firstReaching : Ys yX8_firstReaching cX8_firstReaching 2 (some .int) 2 := ⟨wsG_5 153 (by decide +kernel) (by decide +kernel), wsG_1 14 (by decide +kernel) (by decide +kernel), wsG_5 154 (by decide +kernel) (by decide +kernel), by decide +kernel, by decide⟩
theorem yv_X11_sum : Yv yX11_sum cX11_sum 10 (some .int) 5 := ⟨wsG_5 159 (by decide +kernel) (by decide +kernel), wsG_5 160 (by decide +kernel) (by decide +kernel), wsG_1 1 (by decide +kernel) (by decide +kernel), wsG_5 161 (by decide +kernel) (by decide +kernel), by decide +kernel, by decide⟩
theorem yv_X11_isRange : Yv yX11_isRange cX11_isRange 4 (some .boolean) 3 := ⟨wsG_5 164 (by decide +kernel) (by decide +kernel), wsG_p 34 (by decide +kernel) (by decide +kernel), wsG_1 1 (by decide +kernel) (by decide +kernel), wsG_5 165 (by decide +kernel) (by decide +kernel), by decide +kernel, by decide⟩
theorem yv_X11_sure : Yv yX11_sure cX11_sure 5 (some .int) 4 := ⟨wsG_5 167 (by decide +kernel) (by decide +kernel), wsG_5 168 (by decide +kernel) (by decide +kernel), wsG_1 1 (by decide +kernel) (by decide +kernel), wsG_5 169 (by decide +kernel) (by decide +kernel), by decide +kernel, by decide⟩
theorem yv_X8_surest : Yv yX8_surest cX8_surest 6 (some .int) 3 := ⟨wsG_5 171 (by decide +kernel) (by decide +kernel), wsG_5 172 (by decide +kernel) (by decide +kernel), wsG_1 14 (by decide +kernel) (by decide +kernel), wsG_5 173 (by decide +kernel) (by decide +kernel), by decide +kernel, by decide⟩
theorem yv_X8_greatestBeside : Yv yX8_greatestBeside cX8_greatestBeside 6 (some .int) 3 := ⟨wsG_5 177 (by decide +kernel) (by decide +kernel), wsG_p 35 (by decide +kernel) (by decide +kernel), wsG_1 14 (by decide +kernel) (by decide +kernel), wsG_5 178 (by decide +kernel) (by decide +kernel), by decide +kernel, by decide⟩
theorem yv_X11_lies : Yv yX11_lies cX11_lies 4 (some .int) 3 := ⟨wsG_5 180 (by decide +kernel) (by decide +kernel), wsG_5 181 (by decide +kernel) (by decide +kernel), wsG_1 1 (by decide +kernel) (by decide +kernel), wsG_5 182 (by decide +kernel) (by decide +kernel), by decide +kernel, by decide⟩
theorem yv_X8_liar : Yv yX8_liar cX8_liar 5 (some .int) 2 := ⟨wsG_5 184 (by decide +kernel) (by decide +kernel), wsG_5 185 (by decide +kernel) (by decide +kernel), wsG_1 14 (by decide +kernel) (by decide +kernel), wsG_5 186 (by decide +kernel) (by decide +kernel), by decide +kernel, by decide⟩
theorem yv_X8_isBesideTwo : Yv yX8_isBesideTwo cX8_isBesideTwo 4 (some .boolean) 1 := ⟨wsG_5 189 (by decide +kernel) (by decide +kernel), wsG_p 36 (by decide +kernel) (by decide +kernel), wsG_1 14 (by decide +kernel) (by decide +kernel), wsG_5 190 (by decide +kernel) (by decide +kernel), by decide +kernel, by decide⟩
theorem yv_X8_isApart : Yv yX8_isApart cX8_isApart 4 (some .boolean) 2 := ⟨wsG_5 193 (by decide +kernel) (by decide +kernel), wsG_p 37 (by decide +kernel) (by decide +kernel), wsG_1 14 (by decide +kernel) (by decide +kernel), wsG_5 194 (by decide +kernel) (by decide +kernel), by decide +kernel, by decide⟩
theorem yv_X11_next : Yv yX11_next cX11_next 5 (some .int) 1 := ⟨wsG_5 196 (by decide +kernel) (by decide +kernel), wsG_5 197 (by decide +kernel) (by decide +kernel), wsG_1 1 (by decide +kernel) (by decide +kernel), wsG_5 198 (by decide +kernel) (by decide +kernel), by decide +kernel, by decide⟩
theorem yv_X11_says : Yv yX11_says cX11_says 4 (some .int) 2 := ⟨wsG_5 200 (by decide +kernel) (by decide +kernel), wsG_5 201 (by decide +kernel) (by decide +kernel), wsG_1 1 (by decide +kernel) (by decide +kernel), wsG_5 202 (by decide +kernel) (by decide +kernel), by decide +kernel, by decide⟩
theorem yv_X10_ruleFor : Yv yX10_ruleFor cX10_ruleFor 3 (some .int) 1 := ⟨wsG_5 204 (by decide +kernel) (by decide +kernel), wsG_5 205 (by decide +kernel) (by decide +kernel), wsG_1 16 (by decide +kernel) (by decide +kernel), wsG_5 206 (by decide +kernel) (by decide +kernel), by decide +kernel, by decide⟩
theorem yv_X6_holds : Yv yX6_holds cX6_holds 8 (some .boolean) 3 := ⟨wsG_5 208 (by decide +kernel) (by decide +kernel), wsG_5 209 (by decide +kernel) (by decide +kernel), wsG_1 9 (by decide +kernel) (by decide +kernel), wsG_5 210 (by decide +kernel) (by decide +kernel), by decide +kernel, by decide⟩
theorem ys_X6_isUnit : Ys yX6_isUnit cX6_isUnit 1 (some .boolean) 1 := ⟨wsG_5 212 (by decide +kernel) (by decide +kernel), wsG_1 9 (by decide +kernel) (by decide +kernel), wsG_5 213 (by decide +kernel) (by decide +kernel), by decide +kernel, by decide⟩
theorem ys_X6_unit : Ys yX6_unit cX6_unit 4 (some .int) 4 := ⟨wsG_5 216 (by decide +kernel) (by decide +kernel), wsG_1 9 (by decide +kernel) (by decide +kernel), wsG_5 217 (by decide +kernel) (by decide +kernel), by decide +kernel, by decide⟩
theorem ys_X6_bit : Ys yX6_bit cX6_bit 1 (some .int) 1 := ⟨wsG_5 221 (by decide +kernel) (by decide +kernel), wsG_1 9 (by decide +kernel) (by decide +kernel), wsG_5 222 (by decide +kernel) (by decide +kernel), by decide +kernel, by decide⟩
theorem ys_X6_joined : Ys yX6_joined cX6_joined 3 (some .int) 3 := ⟨wsG_5 224 (by decide +kernel) (by decide +kernel), wsG_1 9 (by decide +kernel) (by decide +kernel), wsG_5 225 (by decide +kernel) (by decide +kernel), by decide +kernel, by decide⟩
theorem yv_X11_tried : Yv yX11_tried cX11_tried 3 (some .int) 2 := ⟨wsG_5 227 (by decide +kernel) (by decide +kernel), wsG_5 228 (by decide +kernel) (by decide +kernel), wsG_1 1 (by decide +kernel) (by decide +kernel), wsG_5 229 (by decide +kernel) (by decide +kernel), by decide +kernel, by decide⟩
theorem yv_X10_run : Yv yX10_run cX10_run 3 none 0 := ⟨wsG_5 231 (by decide +kernel) (by decide +kernel), wsG_5 232 (by decide +kernel) (by decide +kernel), wsG_1 16 (by decide +kernel) (by decide +kernel), wsG_5 233 (by decide +kernel) (by decide +kernel), by decide +kernel, by decide⟩
theorem yv_X2_isMade : Yv yX2_isMade cX2_isMade 2 (some .boolean) 1 := ⟨wsG_5 238 (by decide +kernel) (by decide +kernel), wsG_5 239 (by decide +kernel) (by decide +kernel), wsG_1 7 (by decide +kernel) (by decide +kernel), wsG_6 0 (by decide +kernel) (by decide +kernel), by decide +kernel, by decide⟩
theorem yv_X10_tryDay : Yv yX10_tryDay cX10_tryDay 5 none 2 := ⟨wsG_6 3 (by decide +kernel) (by decide +kernel), wsG_p 38 (by decide +kernel) (by decide +kernel), wsG_1 16 (by decide +kernel) (by decide +kernel), wsG_6 4 (by decide +kernel) (by decide +kernel), by decide +kernel, by decide⟩
theorem yv_X10_worth : Yv yX10_worth cX10_worth 1 (some .int) 0 := ⟨wsG_6 7 (by decide +kernel) (by decide +kernel), wsG_6 8 (by decide +kernel) (by decide +kernel), wsG_1 16 (by decide +kernel) (by decide +kernel), wsG_6 9 (by decide +kernel) (by decide +kernel), by decide +kernel, by decide⟩
theorem yv_X11_luck : Yv yX11_luck cX11_luck 3 (some .long) 2 := ⟨wsG_6 12 (by decide +kernel) (by decide +kernel), wsG_6 13 (by decide +kernel) (by decide +kernel), wsG_1 1 (by decide +kernel) (by decide +kernel), wsG_6 14 (by decide +kernel) (by decide +kernel), by decide +kernel, by decide⟩
theorem yv_X10_chance : Yv yX10_chance cX10_chance 9 (some .long) 1 := ⟨wsG_6 17 (by decide +kernel) (by decide +kernel), wsG_6 18 (by decide +kernel) (by decide +kernel), wsG_1 16 (by decide +kernel) (by decide +kernel), wsG_6 19 (by decide +kernel) (by decide +kernel), by decide +kernel, by decide⟩
theorem ys_X10_choices : Ys yX10_choices cX10_choices 5 (some .long) 2 := ⟨wsG_6 21 (by decide +kernel) (by decide +kernel), wsG_1 16 (by decide +kernel) (by decide +kernel), wsG_6 22 (by decide +kernel) (by decide +kernel), by decide +kernel, by decide⟩
theorem ys_X10_commonDivisor : Ys yX10_commonDivisor cX10_commonDivisor 11 (some .long) 2 := ⟨wsG_6 24 (by decide +kernel) (by decide +kernel), wsG_1 16 (by decide +kernel) (by decide +kernel), wsG_6 25 (by decide +kernel) (by decide +kernel), by decide +kernel, by decide⟩
theorem yv_X11_learnt : Yv yX11_learnt cX11_learnt 4 (some .int) 3 := ⟨wsG_6 28 (by decide +kernel) (by decide +kernel), wsG_6 29 (by decide +kernel) (by decide +kernel), wsG_1 1 (by decide +kernel) (by decide +kernel), wsG_6 30 (by decide +kernel) (by decide +kernel), by decide +kernel, by decide⟩
theorem yv_X10_learn : Yv yX10_learn cX10_learn 9 (some .int) 2 := ⟨wsG_6 32 (by decide +kernel) (by decide +kernel), wsG_6 33 (by decide +kernel) (by decide +kernel), wsG_1 16 (by decide +kernel) (by decide +kernel), wsG_6 34 (by decide +kernel) (by decide +kernel), by decide +kernel, by decide⟩
theorem yv_X10_gather : Yv yX10_gather cX10_gather 7 none 2 := ⟨wsG_6 37 (by decide +kernel) (by decide +kernel), wsG_p 39 (by decide +kernel) (by decide +kernel), wsG_1 16 (by decide +kernel) (by decide +kernel), wsG_6 38 (by decide +kernel) (by decide +kernel), by decide +kernel, by decide⟩
theorem yv_X10_hitsBy : Yv yX10_hitsBy cX10_hitsBy 6 (some .int) 2 := ⟨wsG_6 42 (by decide +kernel) (by decide +kernel), wsG_p 40 (by decide +kernel) (by decide +kernel), wsG_1 16 (by decide +kernel) (by decide +kernel), wsG_6 43 (by decide +kernel) (by decide +kernel), by decide +kernel, by decide⟩
theorem yv_X11_rule : Yv yX11_rule cX11_rule 4 (some .int) 3 := ⟨wsG_6 45 (by decide +kernel) (by decide +kernel), wsG_6 46 (by decide +kernel) (by decide +kernel), wsG_1 1 (by decide +kernel) (by decide +kernel), wsG_6 47 (by decide +kernel) (by decide +kernel), by decide +kernel, by decide⟩
theorem yv_X11_about : Yv yX11_about cX11_about 2 (some .int) 1 := ⟨wsG_6 49 (by decide +kernel) (by decide +kernel), wsG_6 50 (by decide +kernel) (by decide +kernel), wsG_1 1 (by decide +kernel) (by decide +kernel), wsG_6 51 (by decide +kernel) (by decide +kernel), by decide +kernel, by decide⟩
theorem ys_J13_bitCount_95d88 : Ys yJ13_bitCount_95d88 cJ13_bitCount_95d88 2 (some .int) 1 := ⟨wsG_6 53 (by decide +kernel) (by decide +kernel), wsG_1 22 (by decide +kernel) (by decide +kernel), wsG_6 54 (by decide +kernel) (by decide +kernel), by decide +kernel, by decide⟩
theorem yv_X12_feed : Yv yX12_feed cX12_feed 6 (some .int) 5 := ⟨wsG_7 70 (by decide +kernel) (by decide +kernel), wsG_7 71 (by decide +kernel) (by decide +kernel), wsG_1 17 (by decide +kernel) (by decide +kernel), wsG_7 72 (by decide +kernel) (by decide +kernel), by decide +kernel, by decide⟩
theorem yv_X12_four : Yv yX12_four cX12_four 3 none 1 := ⟨wsG_7 75 (by decide +kernel) (by decide +kernel), wsG_p 41 (by decide +kernel) (by decide +kernel), wsG_1 17 (by decide +kernel) (by decide +kernel), wsG_7 76 (by decide +kernel) (by decide +kernel), by decide +kernel, by decide⟩
theorem yv_X12_end : Yv yX12_end cX12_end 2 (some .int) 1 := ⟨wsG_7 78 (by decide +kernel) (by decide +kernel), wsG_7 79 (by decide +kernel) (by decide +kernel), wsG_1 17 (by decide +kernel) (by decide +kernel), wsG_7 80 (by decide +kernel) (by decide +kernel), by decide +kernel, by decide⟩
theorem yv_X12_hill : Yv yX12_hill cX12_hill 2 (some .int) 0 := ⟨wsG_7 82 (by decide +kernel) (by decide +kernel), wsG_7 83 (by decide +kernel) (by decide +kernel), wsG_1 17 (by decide +kernel) (by decide +kernel), wsG_7 84 (by decide +kernel) (by decide +kernel), by decide +kernel, by decide⟩
theorem yv_X12_start : Yv yX12_start cX12_start 2 none 1 := ⟨wsG_7 87 (by decide +kernel) (by decide +kernel), wsG_p 42 (by decide +kernel) (by decide +kernel), wsG_1 17 (by decide +kernel) (by decide +kernel), wsG_7 88 (by decide +kernel) (by decide +kernel), by decide +kernel, by decide⟩
theorem yv_X12_token : Yv yX12_token cX12_token 3 none 0 := ⟨wsG_7 91 (by decide +kernel) (by decide +kernel), wsG_p 43 (by decide +kernel) (by decide +kernel), wsG_1 17 (by decide +kernel) (by decide +kernel), wsG_7 92 (by decide +kernel) (by decide +kernel), by decide +kernel, by decide⟩
theorem yv_X12_here : Yv yX12_here cX12_here 2 (some .int) 1 := ⟨wsG_7 95 (by decide +kernel) (by decide +kernel), wsG_p 44 (by decide +kernel) (by decide +kernel), wsG_1 17 (by decide +kernel) (by decide +kernel), wsG_7 96 (by decide +kernel) (by decide +kernel), by decide +kernel, by decide⟩
theorem ys_X12_isLetter : Ys yX12_isLetter cX12_isLetter 1 (some .boolean) 1 := ⟨wsG_7 98 (by decide +kernel) (by decide +kernel), wsG_1 17 (by decide +kernel) (by decide +kernel), wsG_7 99 (by decide +kernel) (by decide +kernel), by decide +kernel, by decide⟩
theorem ys_X12_isDigit : Ys yX12_isDigit cX12_isDigit 1 (some .boolean) 1 := ⟨wsG_7 101 (by decide +kernel) (by decide +kernel), wsG_1 17 (by decide +kernel) (by decide +kernel), wsG_7 102 (by decide +kernel) (by decide +kernel), by decide +kernel, by decide⟩
theorem yv_X12_isSign : Yv yX12_isSign cX12_isSign 2 (some .boolean) 1 := ⟨wsG_7 105 (by decide +kernel) (by decide +kernel), wsG_p 45 (by decide +kernel) (by decide +kernel), wsG_1 17 (by decide +kernel) (by decide +kernel), wsG_7 106 (by decide +kernel) (by decide +kernel), by decide +kernel, by decide⟩
theorem yv_X12_isWord : Yv yX12_isWord cX12_isWord 3 (some .boolean) 1 := ⟨wsG_7 110 (by decide +kernel) (by decide +kernel), wsG_p 46 (by decide +kernel) (by decide +kernel), wsG_1 17 (by decide +kernel) (by decide +kernel), wsG_7 111 (by decide +kernel) (by decide +kernel), by decide +kernel, by decide⟩
theorem yv_X12_readBox : Yv yX12_readBox cX12_readBox 2 none 0 := ⟨wsG_7 114 (by decide +kernel) (by decide +kernel), wsG_p 47 (by decide +kernel) (by decide +kernel), wsG_1 17 (by decide +kernel) (by decide +kernel), wsG_7 115 (by decide +kernel) (by decide +kernel), by decide +kernel, by decide⟩
theorem yv_X12_isName : Yv yX12_isName cX12_isName 2 (some .boolean) 0 := ⟨wsG_7 118 (by decide +kernel) (by decide +kernel), wsG_p 48 (by decide +kernel) (by decide +kernel), wsG_1 17 (by decide +kernel) (by decide +kernel), wsG_7 119 (by decide +kernel) (by decide +kernel), by decide +kernel, by decide⟩
theorem yv_X12_spoil : Yv yX12_spoil cX12_spoil 2 none 1 := ⟨wsG_7 147 (by decide +kernel) (by decide +kernel), wsG_p 49 (by decide +kernel) (by decide +kernel), wsG_1 17 (by decide +kernel) (by decide +kernel), wsG_7 148 (by decide +kernel) (by decide +kernel), by decide +kernel, by decide⟩
theorem yv_X12_boxOf : Yv yX12_boxOf cX12_boxOf 5 (some .int) 1 := ⟨wsG_7 151 (by decide +kernel) (by decide +kernel), wsG_p 50 (by decide +kernel) (by decide +kernel), wsG_1 17 (by decide +kernel) (by decide +kernel), wsG_7 152 (by decide +kernel) (by decide +kernel), by decide +kernel, by decide⟩
theorem yv_X12_readRange : Yv yX12_readRange cX12_readRange 10 none 6 := ⟨wsG_7 155 (by decide +kernel) (by decide +kernel), wsG_p 51 (by decide +kernel) (by decide +kernel), wsG_1 17 (by decide +kernel) (by decide +kernel), wsG_7 156 (by decide +kernel) (by decide +kernel), by decide +kernel, by decide⟩
theorem yv_X12_want : Yv yX12_want cX12_want 3 none 1 := ⟨wsG_7 159 (by decide +kernel) (by decide +kernel), wsG_p 52 (by decide +kernel) (by decide +kernel), wsG_1 17 (by decide +kernel) (by decide +kernel), wsG_7 160 (by decide +kernel) (by decide +kernel), by decide +kernel, by decide⟩
theorem yv_X12_signed : Yv yX12_signed cX12_signed 6 (some .int) 2 := ⟨wsG_7 163 (by decide +kernel) (by decide +kernel), wsG_p 53 (by decide +kernel) (by decide +kernel), wsG_1 17 (by decide +kernel) (by decide +kernel), wsG_7 164 (by decide +kernel) (by decide +kernel), by decide +kernel, by decide⟩
theorem yv_X12_told : Yv yX12_told cX12_told 4 (some .int) 2 := ⟨wsG_7 167 (by decide +kernel) (by decide +kernel), wsG_p 54 (by decide +kernel) (by decide +kernel), wsG_1 17 (by decide +kernel) (by decide +kernel), wsG_7 168 (by decide +kernel) (by decide +kernel), by decide +kernel, by decide⟩
theorem yv_X12_isOther : Yv yX12_isOther cX12_isOther 1 (some .boolean) 0 := ⟨wsG_7 171 (by decide +kernel) (by decide +kernel), wsG_p 55 (by decide +kernel) (by decide +kernel), wsG_1 17 (by decide +kernel) (by decide +kernel), wsG_7 172 (by decide +kernel) (by decide +kernel), by decide +kernel, by decide⟩
theorem yv_X12_readOther : Yv yX12_readOther cX12_readOther 9 none 0 := ⟨wsG_7 175 (by decide +kernel) (by decide +kernel), wsG_p 56 (by decide +kernel) (by decide +kernel), wsG_1 17 (by decide +kernel) (by decide +kernel), wsG_7 176 (by decide +kernel) (by decide +kernel), by decide +kernel, by decide⟩
theorem yv_X12_oldBox : Yv yX12_oldBox cX12_oldBox 2 (some .int) 0 := ⟨wsG_7 179 (by decide +kernel) (by decide +kernel), wsG_p 57 (by decide +kernel) (by decide +kernel), wsG_1 17 (by decide +kernel) (by decide +kernel), wsG_7 180 (by decide +kernel) (by decide +kernel), by decide +kernel, by decide⟩
theorem yv_X12_fault : Yv yX12_fault cX12_fault 2 (some .int) 1 := ⟨wsG_7 182 (by decide +kernel) (by decide +kernel), wsG_7 183 (by decide +kernel) (by decide +kernel), wsG_1 17 (by decide +kernel) (by decide +kernel), wsG_7 184 (by decide +kernel) (by decide +kernel), by decide +kernel, by decide⟩
theorem yv_X12_share : Yv yX12_share cX12_share 3 (some .boolean) 2 := ⟨wsG_7 186 (by decide +kernel) (by decide +kernel), wsG_7 187 (by decide +kernel) (by decide +kernel), wsG_1 17 (by decide +kernel) (by decide +kernel), wsG_7 188 (by decide +kernel) (by decide +kernel), by decide +kernel, by decide⟩
theorem ys_X12_isDay : Ys yX12_isDay cX12_isDay 1 (some .boolean) 1 := ⟨wsG_7 190 (by decide +kernel) (by decide +kernel), wsG_1 17 (by decide +kernel) (by decide +kernel), wsG_7 191 (by decide +kernel) (by decide +kernel), by decide +kernel, by decide⟩
theorem yv_X12_far : Yv yX12_far cX12_far 4 (some .int) 3 := ⟨wsG_7 193 (by decide +kernel) (by decide +kernel), wsG_7 194 (by decide +kernel) (by decide +kernel), wsG_1 17 (by decide +kernel) (by decide +kernel), wsG_7 195 (by decide +kernel) (by decide +kernel), by decide +kernel, by decide⟩
theorem ys_X12_leastOf : Ys yX12_leastOf cX12_leastOf 1 (some .int) 1 := ⟨wsG_7 197 (by decide +kernel) (by decide +kernel), wsG_1 17 (by decide +kernel) (by decide +kernel), wsG_7 198 (by decide +kernel) (by decide +kernel), by decide +kernel, by decide⟩
theorem ys_X12_mostOf : Ys yX12_mostOf cX12_mostOf 1 (some .int) 1 := ⟨wsG_7 200 (by decide +kernel) (by decide +kernel), wsG_1 17 (by decide +kernel) (by decide +kernel), wsG_7 201 (by decide +kernel) (by decide +kernel), by decide +kernel, by decide⟩
theorem yv_X12_add : Yv yX12_add cX12_add 6 (some .int) 5 := ⟨wsG_7 204 (by decide +kernel) (by decide +kernel), wsG_p 58 (by decide +kernel) (by decide +kernel), wsG_1 17 (by decide +kernel) (by decide +kernel), wsG_7 205 (by decide +kernel) (by decide +kernel), by decide +kernel, by decide⟩
theorem yv_X12_read : Yv yX12_read cX12_read 6 (some .int) 4 := ⟨wsG_7 207 (by decide +kernel) (by decide +kernel), wsG_7 208 (by decide +kernel) (by decide +kernel), wsG_1 17 (by decide +kernel) (by decide +kernel), wsG_7 209 (by decide +kernel) (by decide +kernel), by decide +kernel, by decide⟩
theorem yv_X12_isBox : Yv yX12_isBox cX12_isBox 2 (some .boolean) 1 := ⟨wsG_7 212 (by decide +kernel) (by decide +kernel), wsG_p 59 (by decide +kernel) (by decide +kernel), wsG_1 17 (by decide +kernel) (by decide +kernel), wsG_7 213 (by decide +kernel) (by decide +kernel), by decide +kernel, by decide⟩
theorem yv_X12_doubt : Yv yX12_doubt cX12_doubt 3 (some .boolean) 2 := ⟨wsG_7 215 (by decide +kernel) (by decide +kernel), wsG_7 216 (by decide +kernel) (by decide +kernel), wsG_1 17 (by decide +kernel) (by decide +kernel), wsG_7 217 (by decide +kernel) (by decide +kernel), by decide +kernel, by decide⟩
theorem yv_X12_untell : Yv yX12_untell cX12_untell 2 (some .boolean) 1 := ⟨wsG_7 219 (by decide +kernel) (by decide +kernel), wsG_7 220 (by decide +kernel) (by decide +kernel), wsG_1 17 (by decide +kernel) (by decide +kernel), wsG_7 221 (by decide +kernel) (by decide +kernel), by decide +kernel, by decide⟩
theorem yv_X12_later : Yv yX12_later cX12_later 2 (some .int) 1 := ⟨wsG_7 223 (by decide +kernel) (by decide +kernel), wsG_7 224 (by decide +kernel) (by decide +kernel), wsG_1 17 (by decide +kernel) (by decide +kernel), wsG_7 225 (by decide +kernel) (by decide +kernel), by decide +kernel, by decide⟩
theorem yv_X12_farOf : Yv yX12_farOf cX12_farOf 4 (some .int) 3 := ⟨wsG_7 228 (by decide +kernel) (by decide +kernel), wsG_7 229 (by decide +kernel) (by decide +kernel), wsG_1 17 (by decide +kernel) (by decide +kernel), wsG_7 230 (by decide +kernel) (by decide +kernel), by decide +kernel, by decide⟩
theorem yv_X12_layOut : Yv yX12_layOut cX12_layOut 4 none 1 := ⟨wsG_7 234 (by decide +kernel) (by decide +kernel), wsG_p 60 (by decide +kernel) (by decide +kernel), wsG_1 17 (by decide +kernel) (by decide +kernel), wsG_7 235 (by decide +kernel) (by decide +kernel), by decide +kernel, by decide⟩
theorem yv_X12_reading : Yv yX12_reading cX12_reading 4 (some .int) 3 := ⟨wsG_7 237 (by decide +kernel) (by decide +kernel), wsG_7 238 (by decide +kernel) (by decide +kernel), wsG_1 17 (by decide +kernel) (by decide +kernel), wsG_7 239 (by decide +kernel) (by decide +kernel), by decide +kernel, by decide⟩
theorem yv_X12_isPlace : Yv yX12_isPlace cX12_isPlace 3 (some .boolean) 2 := ⟨wsG_8 2 (by decide +kernel) (by decide +kernel), wsG_p 61 (by decide +kernel) (by decide +kernel), wsG_1 17 (by decide +kernel) (by decide +kernel), wsG_8 3 (by decide +kernel) (by decide +kernel), by decide +kernel, by decide⟩
theorem yv_X12_laws : Yv yX12_laws cX12_laws 4 (some .int) 3 := ⟨wsG_8 5 (by decide +kernel) (by decide +kernel), wsG_8 6 (by decide +kernel) (by decide +kernel), wsG_1 17 (by decide +kernel) (by decide +kernel), wsG_8 7 (by decide +kernel) (by decide +kernel), by decide +kernel, by decide⟩
theorem yv_X12_seekLaws : Yv yX12_seekLaws cX12_seekLaws 16 none 2 := ⟨wsG_8 10 (by decide +kernel) (by decide +kernel), wsG_p 62 (by decide +kernel) (by decide +kernel), wsG_1 17 (by decide +kernel) (by decide +kernel), wsG_8 11 (by decide +kernel) (by decide +kernel), by decide +kernel, by decide⟩
theorem yv_X12_stretchFrom : Yv yX12_stretchFrom cX12_stretchFrom 4 (some .int) 2 := ⟨wsG_8 14 (by decide +kernel) (by decide +kernel), wsG_p 63 (by decide +kernel) (by decide +kernel), wsG_1 17 (by decide +kernel) (by decide +kernel), wsG_8 15 (by decide +kernel) (by decide +kernel), by decide +kernel, by decide⟩
theorem yv_X12_stretchTo : Yv yX12_stretchTo cX12_stretchTo 4 (some .int) 2 := ⟨wsG_8 18 (by decide +kernel) (by decide +kernel), wsG_p 64 (by decide +kernel) (by decide +kernel), wsG_1 17 (by decide +kernel) (by decide +kernel), wsG_8 19 (by decide +kernel) (by decide +kernel), by decide +kernel, by decide⟩
theorem yv_X12_showsOn : Yv yX12_showsOn cX12_showsOn 8 (some .int) 6 := ⟨wsG_8 22 (by decide +kernel) (by decide +kernel), wsG_p 65 (by decide +kernel) (by decide +kernel), wsG_1 17 (by decide +kernel) (by decide +kernel), wsG_8 23 (by decide +kernel) (by decide +kernel), by decide +kernel, by decide⟩
theorem yv_X12_showsBy : Yv yX12_showsBy cX12_showsBy 8 (some .int) 6 := ⟨wsG_8 26 (by decide +kernel) (by decide +kernel), wsG_p 66 (by decide +kernel) (by decide +kernel), wsG_1 17 (by decide +kernel) (by decide +kernel), wsG_8 27 (by decide +kernel) (by decide +kernel), by decide +kernel, by decide⟩
theorem ys_X12_down : Ys yX12_down cX12_down 2 (some .int) 2 := ⟨wsG_8 29 (by decide +kernel) (by decide +kernel), wsG_1 17 (by decide +kernel) (by decide +kernel), wsG_8 30 (by decide +kernel) (by decide +kernel), by decide +kernel, by decide⟩
theorem yv_X12_ageOf : Yv yX12_ageOf cX12_ageOf 5 (some .int) 2 := ⟨wsG_8 33 (by decide +kernel) (by decide +kernel), wsG_p 67 (by decide +kernel) (by decide +kernel), wsG_1 17 (by decide +kernel) (by decide +kernel), wsG_8 34 (by decide +kernel) (by decide +kernel), by decide +kernel, by decide⟩
theorem ys_X12_round : Ys yX12_round cX12_round 1 (some .int) 1 := ⟨wsG_8 36 (by decide +kernel) (by decide +kernel), wsG_1 17 (by decide +kernel) (by decide +kernel), wsG_8 37 (by decide +kernel) (by decide +kernel), by decide +kernel, by decide⟩
theorem yv_X12_fits : Yv yX12_fits cX12_fits 5 (some .boolean) 3 := ⟨wsG_8 40 (by decide +kernel) (by decide +kernel), wsG_p 68 (by decide +kernel) (by decide +kernel), wsG_1 17 (by decide +kernel) (by decide +kernel), wsG_8 41 (by decide +kernel) (by decide +kernel), by decide +kernel, by decide⟩
theorem yv_X12_law : Yv yX12_law cX12_law 6 (some .int) 5 := ⟨wsG_8 43 (by decide +kernel) (by decide +kernel), wsG_8 44 (by decide +kernel) (by decide +kernel), wsG_1 17 (by decide +kernel) (by decide +kernel), wsG_8 45 (by decide +kernel) (by decide +kernel), by decide +kernel, by decide⟩
theorem yv_X12_misses : Yv yX12_misses cX12_misses 4 (some .int) 3 := ⟨wsG_8 47 (by decide +kernel) (by decide +kernel), wsG_8 48 (by decide +kernel) (by decide +kernel), wsG_1 17 (by decide +kernel) (by decide +kernel), wsG_8 49 (by decide +kernel) (by decide +kernel), by decide +kernel, by decide⟩
theorem yv_X12_shows : Yv yX12_shows cX12_shows 4 (some .int) 3 := ⟨wsG_8 51 (by decide +kernel) (by decide +kernel), wsG_8 52 (by decide +kernel) (by decide +kernel), wsG_1 17 (by decide +kernel) (by decide +kernel), wsG_8 53 (by decide +kernel) (by decide +kernel), by decide +kernel, by decide⟩
theorem yv_X12_showsFirst : Yv yX12_showsFirst cX12_showsFirst 3 (some .int) 2 := ⟨wsG_8 56 (by decide +kernel) (by decide +kernel), wsG_p 69 (by decide +kernel) (by decide +kernel), wsG_1 17 (by decide +kernel) (by decide +kernel), wsG_8 57 (by decide +kernel) (by decide +kernel), by decide +kernel, by decide⟩
theorem yv_X12_frost : Yv yX12_frost cX12_frost 4 (some .int) 3 := ⟨wsG_8 59 (by decide +kernel) (by decide +kernel), wsG_8 60 (by decide +kernel) (by decide +kernel), wsG_1 17 (by decide +kernel) (by decide +kernel), wsG_8 61 (by decide +kernel) (by decide +kernel), by decide +kernel, by decide⟩
theorem yv_X12_shown : Yv yX12_shown cX12_shown 8 (some .int) 4 := ⟨wsG_8 63 (by decide +kernel) (by decide +kernel), wsG_8 64 (by decide +kernel) (by decide +kernel), wsG_1 17 (by decide +kernel) (by decide +kernel), wsG_8 65 (by decide +kernel) (by decide +kernel), by decide +kernel, by decide⟩
theorem yv_X12_wrong : Yv yX12_wrong cX12_wrong 4 (some .int) 3 := ⟨wsG_8 67 (by decide +kernel) (by decide +kernel), wsG_8 68 (by decide +kernel) (by decide +kernel), wsG_1 17 (by decide +kernel) (by decide +kernel), wsG_8 69 (by decide +kernel) (by decide +kernel), by decide +kernel, by decide⟩
theorem yv_X12_wrongOn : Yv yX12_wrongOn cX12_wrongOn 5 (some .int) 2 := ⟨wsG_8 72 (by decide +kernel) (by decide +kernel), wsG_p 70 (by decide +kernel) (by decide +kernel), wsG_1 17 (by decide +kernel) (by decide +kernel), wsG_8 73 (by decide +kernel) (by decide +kernel), by decide +kernel, by decide⟩
theorem yv_X12_isRow : Yv yX12_isRow cX12_isRow 8 (some .boolean) 4 := ⟨wsG_8 76 (by decide +kernel) (by decide +kernel), wsG_p 71 (by decide +kernel) (by decide +kernel), wsG_1 17 (by decide +kernel) (by decide +kernel), wsG_8 77 (by decide +kernel) (by decide +kernel), by decide +kernel, by decide⟩
theorem yv_X12_habit : Yv yX12_habit cX12_habit 6 (some .int) 2 := ⟨wsG_8 79 (by decide +kernel) (by decide +kernel), wsG_8 80 (by decide +kernel) (by decide +kernel), wsG_1 17 (by decide +kernel) (by decide +kernel), wsG_8 81 (by decide +kernel) (by decide +kernel), by decide +kernel, by decide⟩
theorem yv_X12_right : Yv yX12_right cX12_right 5 (some .int) 4 := ⟨wsG_8 83 (by decide +kernel) (by decide +kernel), wsG_8 84 (by decide +kernel) (by decide +kernel), wsG_1 17 (by decide +kernel) (by decide +kernel), wsG_8 85 (by decide +kernel) (by decide +kernel), by decide +kernel, by decide⟩
theorem yv_X12_seekRight : Yv yX12_seekRight cX12_seekRight 7 none 2 := ⟨wsG_8 88 (by decide +kernel) (by decide +kernel), wsG_p 72 (by decide +kernel) (by decide +kernel), wsG_1 17 (by decide +kernel) (by decide +kernel), wsG_8 89 (by decide +kernel) (by decide +kernel), by decide +kernel, by decide⟩
theorem yv_X12_sum : Yv yX12_sum cX12_sum 10 (some .int) 5 := ⟨wsG_8 91 (by decide +kernel) (by decide +kernel), wsG_8 92 (by decide +kernel) (by decide +kernel), wsG_1 17 (by decide +kernel) (by decide +kernel), wsG_8 93 (by decide +kernel) (by decide +kernel), by decide +kernel, by decide⟩
theorem yv_X12_sure : Yv yX12_sure cX12_sure 9 (some .int) 4 := ⟨wsG_8 95 (by decide +kernel) (by decide +kernel), wsG_8 96 (by decide +kernel) (by decide +kernel), wsG_1 17 (by decide +kernel) (by decide +kernel), wsG_8 97 (by decide +kernel) (by decide +kernel), by decide +kernel, by decide⟩
theorem yv_X12_lies : Yv yX12_lies cX12_lies 7 (some .int) 3 := ⟨wsG_8 99 (by decide +kernel) (by decide +kernel), wsG_8 100 (by decide +kernel) (by decide +kernel), wsG_1 17 (by decide +kernel) (by decide +kernel), wsG_8 101 (by decide +kernel) (by decide +kernel), by decide +kernel, by decide⟩
theorem yv_X12_meets : Yv yX12_meets cX12_meets 3 (some .boolean) 2 := ⟨wsG_8 104 (by decide +kernel) (by decide +kernel), wsG_p 73 (by decide +kernel) (by decide +kernel), wsG_1 17 (by decide +kernel) (by decide +kernel), wsG_8 105 (by decide +kernel) (by decide +kernel), by decide +kernel, by decide⟩
theorem yv_X12_next : Yv yX12_next cX12_next 5 (some .int) 1 := ⟨wsG_8 107 (by decide +kernel) (by decide +kernel), wsG_8 108 (by decide +kernel) (by decide +kernel), wsG_1 17 (by decide +kernel) (by decide +kernel), wsG_8 109 (by decide +kernel) (by decide +kernel), by decide +kernel, by decide⟩
theorem yv_X12_rules : Yv yX12_rules cX12_rules 2 (some .int) 0 := ⟨wsG_8 111 (by decide +kernel) (by decide +kernel), wsG_8 112 (by decide +kernel) (by decide +kernel), wsG_1 17 (by decide +kernel) (by decide +kernel), wsG_8 113 (by decide +kernel) (by decide +kernel), by decide +kernel, by decide⟩
theorem yv_X12_readRule : Yv yX12_readRule cX12_readRule 2 none 0 := ⟨wsG_8 116 (by decide +kernel) (by decide +kernel), wsG_p 74 (by decide +kernel) (by decide +kernel), wsG_1 17 (by decide +kernel) (by decide +kernel), wsG_8 117 (by decide +kernel) (by decide +kernel), by decide +kernel, by decide⟩
theorem yv_X12_isOpen : Yv yX12_isOpen cX12_isOpen 3 (some .boolean) 0 := ⟨wsG_8 120 (by decide +kernel) (by decide +kernel), wsG_p 75 (by decide +kernel) (by decide +kernel), wsG_1 17 (by decide +kernel) (by decide +kernel), wsG_8 121 (by decide +kernel) (by decide +kernel), by decide +kernel, by decide⟩
theorem yv_X12_sign : Yv yX12_sign cX12_sign 2 (some .int) 0 := ⟨wsG_8 124 (by decide +kernel) (by decide +kernel), wsG_p 76 (by decide +kernel) (by decide +kernel), wsG_1 17 (by decide +kernel) (by decide +kernel), wsG_8 125 (by decide +kernel) (by decide +kernel), by decide +kernel, by decide⟩
theorem yv_X12_settle : Yv yX12_settle cX12_settle 2 none 1 := ⟨wsG_8 128 (by decide +kernel) (by decide +kernel), wsG_p 77 (by decide +kernel) (by decide +kernel), wsG_1 17 (by decide +kernel) (by decide +kernel), wsG_8 129 (by decide +kernel) (by decide +kernel), by decide +kernel, by decide⟩
theorem yv_X12_upper : Yv yX12_upper cX12_upper 1 (some .int) 0 := ⟨wsG_8 132 (by decide +kernel) (by decide +kernel), wsG_p 78 (by decide +kernel) (by decide +kernel), wsG_1 17 (by decide +kernel) (by decide +kernel), wsG_8 133 (by decide +kernel) (by decide +kernel), by decide +kernel, by decide⟩
theorem yv_X12_pop : Yv yX12_pop cX12_pop 1 none 0 := ⟨wsG_8 136 (by decide +kernel) (by decide +kernel), wsG_p 79 (by decide +kernel) (by decide +kernel), wsG_1 17 (by decide +kernel) (by decide +kernel), wsG_8 137 (by decide +kernel) (by decide +kernel), by decide +kernel, by decide⟩
theorem yv_X12_note : Yv yX12_note cX12_note 3 none 2 := ⟨wsG_8 140 (by decide +kernel) (by decide +kernel), wsG_p 80 (by decide +kernel) (by decide +kernel), wsG_1 17 (by decide +kernel) (by decide +kernel), wsG_8 141 (by decide +kernel) (by decide +kernel), by decide +kernel, by decide⟩
theorem ys_X12_rank : Ys yX12_rank cX12_rank 1 (some .int) 1 := ⟨wsG_8 143 (by decide +kernel) (by decide +kernel), wsG_1 17 (by decide +kernel) (by decide +kernel), wsG_8 144 (by decide +kernel) (by decide +kernel), by decide +kernel, by decide⟩
theorem yv_X12_hold : Yv yX12_hold cX12_hold 2 none 1 := ⟨wsG_8 147 (by decide +kernel) (by decide +kernel), wsG_p 81 (by decide +kernel) (by decide +kernel), wsG_1 17 (by decide +kernel) (by decide +kernel), wsG_8 148 (by decide +kernel) (by decide +kernel), by decide +kernel, by decide⟩
theorem yv_X12_operand : Yv yX12_operand cX12_operand 5 (some .int) 1 := ⟨wsG_8 151 (by decide +kernel) (by decide +kernel), wsG_p 82 (by decide +kernel) (by decide +kernel), wsG_1 17 (by decide +kernel) (by decide +kernel), wsG_8 152 (by decide +kernel) (by decide +kernel), by decide +kernel, by decide⟩
theorem yv_X12_named : Yv yX12_named cX12_named 3 (some .int) 0 := ⟨wsG_8 155 (by decide +kernel) (by decide +kernel), wsG_p 83 (by decide +kernel) (by decide +kernel), wsG_1 17 (by decide +kernel) (by decide +kernel), wsG_8 156 (by decide +kernel) (by decide +kernel), by decide +kernel, by decide⟩
theorem yv_X12_says : Yv yX12_says cX12_says 4 (some .int) 2 := ⟨wsG_8 158 (by decide +kernel) (by decide +kernel), wsG_8 159 (by decide +kernel) (by decide +kernel), wsG_1 17 (by decide +kernel) (by decide +kernel), wsG_8 160 (by decide +kernel) (by decide +kernel), by decide +kernel, by decide⟩
theorem yv_X12_ruleOn : Yv yX12_ruleOn cX12_ruleOn 3 (some .int) 1 := ⟨wsG_8 163 (by decide +kernel) (by decide +kernel), wsG_p 84 (by decide +kernel) (by decide +kernel), wsG_1 17 (by decide +kernel) (by decide +kernel), wsG_8 164 (by decide +kernel) (by decide +kernel), by decide +kernel, by decide⟩
theorem yv_X12_holds : Yv yX12_holds cX12_holds 7 (some .boolean) 2 := ⟨wsG_8 167 (by decide +kernel) (by decide +kernel), wsG_p 85 (by decide +kernel) (by decide +kernel), wsG_1 17 (by decide +kernel) (by decide +kernel), wsG_8 168 (by decide +kernel) (by decide +kernel), by decide +kernel, by decide⟩
theorem ys_X12_worked : Ys yX12_worked cX12_worked 3 (some .int) 3 := ⟨wsG_8 170 (by decide +kernel) (by decide +kernel), wsG_1 17 (by decide +kernel) (by decide +kernel), wsG_8 171 (by decide +kernel) (by decide +kernel), by decide +kernel, by decide⟩
theorem yv_X12_tried : Yv yX12_tried cX12_tried 4 (some .int) 2 := ⟨wsG_8 173 (by decide +kernel) (by decide +kernel), wsG_8 174 (by decide +kernel) (by decide +kernel), wsG_1 17 (by decide +kernel) (by decide +kernel), wsG_8 175 (by decide +kernel) (by decide +kernel), by decide +kernel, by decide⟩
theorem yv_X12_tryAll : Yv yX12_tryAll cX12_tryAll 4 none 1 := ⟨wsG_8 178 (by decide +kernel) (by decide +kernel), wsG_p 86 (by decide +kernel) (by decide +kernel), wsG_1 17 (by decide +kernel) (by decide +kernel), wsG_8 179 (by decide +kernel) (by decide +kernel), by decide +kernel, by decide⟩
theorem yv_X12_isTried : Yv yX12_isTried cX12_isTried 2 (some .boolean) 1 := ⟨wsG_8 182 (by decide +kernel) (by decide +kernel), wsG_p 87 (by decide +kernel) (by decide +kernel), wsG_1 17 (by decide +kernel) (by decide +kernel), wsG_8 183 (by decide +kernel) (by decide +kernel), by decide +kernel, by decide⟩
theorem yv_X12_wetNext : Yv yX12_wetNext cX12_wetNext 3 (some .int) 1 := ⟨wsG_8 186 (by decide +kernel) (by decide +kernel), wsG_p 88 (by decide +kernel) (by decide +kernel), wsG_1 17 (by decide +kernel) (by decide +kernel), wsG_8 187 (by decide +kernel) (by decide +kernel), by decide +kernel, by decide⟩
theorem yv_X12_luck : Yv yX12_luck cX12_luck 9 (some .long) 2 := ⟨wsG_8 189 (by decide +kernel) (by decide +kernel), wsG_8 190 (by decide +kernel) (by decide +kernel), wsG_1 17 (by decide +kernel) (by decide +kernel), wsG_8 191 (by decide +kernel) (by decide +kernel), by decide +kernel, by decide⟩
theorem yv_X12_layChoices : Yv yX12_layChoices cX12_layChoices 3 none 0 := ⟨wsG_8 195 (by decide +kernel) (by decide +kernel), wsG_p 89 (by decide +kernel) (by decide +kernel), wsG_1 17 (by decide +kernel) (by decide +kernel), wsG_8 196 (by decide +kernel) (by decide +kernel), by decide +kernel, by decide⟩
theorem ys_X12_common : Ys yX12_common cX12_common 10 (some .long) 2 := ⟨wsG_8 198 (by decide +kernel) (by decide +kernel), wsG_1 17 (by decide +kernel) (by decide +kernel), wsG_8 199 (by decide +kernel) (by decide +kernel), by decide +kernel, by decide⟩
theorem yv_X12_learnt : Yv yX12_learnt cX12_learnt 10 (some .int) 3 := ⟨wsG_8 201 (by decide +kernel) (by decide +kernel), wsG_8 202 (by decide +kernel) (by decide +kernel), wsG_1 17 (by decide +kernel) (by decide +kernel), wsG_8 203 (by decide +kernel) (by decide +kernel), by decide +kernel, by decide⟩
theorem yv_X12_countDays : Yv yX12_countDays cX12_countDays 5 (some .int) 2 := ⟨wsG_8 206 (by decide +kernel) (by decide +kernel), wsG_p 90 (by decide +kernel) (by decide +kernel), wsG_1 17 (by decide +kernel) (by decide +kernel), wsG_8 207 (by decide +kernel) (by decide +kernel), by decide +kernel, by decide⟩
theorem yv_X12_countRight : Yv yX12_countRight cX12_countRight 9 (some .int) 4 := ⟨wsG_8 210 (by decide +kernel) (by decide +kernel), wsG_p 91 (by decide +kernel) (by decide +kernel), wsG_1 17 (by decide +kernel) (by decide +kernel), wsG_8 211 (by decide +kernel) (by decide +kernel), by decide +kernel, by decide⟩
theorem yv_X12_rule : Yv yX12_rule cX12_rule 7 (some .int) 3 := ⟨wsG_8 213 (by decide +kernel) (by decide +kernel), wsG_8 214 (by decide +kernel) (by decide +kernel), wsG_1 17 (by decide +kernel) (by decide +kernel), wsG_8 215 (by decide +kernel) (by decide +kernel), by decide +kernel, by decide⟩
theorem yv_X12_about : Yv yX12_about cX12_about 4 (some .int) 1 := ⟨wsG_8 217 (by decide +kernel) (by decide +kernel), wsG_8 218 (by decide +kernel) (by decide +kernel), wsG_1 17 (by decide +kernel) (by decide +kernel), wsG_8 219 (by decide +kernel) (by decide +kernel), by decide +kernel, by decide⟩
theorem lk_L_9 : Cond.methodLink RL 9 yX11_init ∈ wsG := wsG_1 25 (by decide +kernel) (by decide +kernel)
theorem lk_X11_19 : Cond.methodLink RX11 19 yX9_init ∈ wsG := wsG_1 33 (by decide +kernel) (by decide +kernel)
theorem lk_X9_25 : Cond.methodLink RX9 25 yJ0_length_8abf5 ∈ wsG := wsG_1 39 (by decide +kernel) (by decide +kernel)
theorem lk_J0_335 : Cond.methodLink RJ0 335 yJ0_coder_7d493 ∈ wsG := wsG_1 43 (by decide +kernel) (by decide +kernel)
theorem lk_X9_31 : Cond.methodLink RX9 31 yJ0_charAt_5068e ∈ wsG := wsG_1 49 (by decide +kernel) (by decide +kernel)
theorem lk_J0_492 : Cond.methodLink RJ0 492 yJ0_isLatin1_aae02 ∈ wsG := wsG_1 53 (by decide +kernel) (by decide +kernel)
theorem lk_J0_495 : Cond.methodLink RJ0 495 yJ1_charAt_3b067 ∈ wsG := wsG_1 57 (by decide +kernel) (by decide +kernel)
theorem lk_J1_9 : Cond.methodLink RJ1 9 yJ0_checkIndex_df160 ∈ wsG := wsG_1 60 (by decide +kernel) (by decide +kernel)
theorem lk_J0_1059 : Cond.methodLink RJ0 1059 yJ3_checkIndex_8e157 ∈ wsG := wsG_1 65 (by decide +kernel) (by decide +kernel)
theorem lk_J0_498 : Cond.methodLink RJ0 498 yJ2_charAt_3b067 ∈ wsG := wsG_1 68 (by decide +kernel) (by decide +kernel)
theorem lk_J2_67 : Cond.methodLink RJ2 67 yJ2_checkIndex_2214a ∈ wsG := wsG_1 71 (by decide +kernel) (by decide +kernel)
theorem lk_J2_48 : Cond.methodLink RJ2 48 yJ2_length_9d52b ∈ wsG := wsG_1 74 (by decide +kernel) (by decide +kernel)
theorem lk_J2_414 : Cond.methodLink RJ2 414 yJ0_checkIndex_df160 ∈ wsG := wsG_1 77 (by decide +kernel) (by decide +kernel)
theorem lk_J2_71 : Cond.methodLink RJ2 71 yJ2_getChar_3b067 ∈ wsG := wsG_1 78 (by decide +kernel) (by decide +kernel)
theorem lk_X9_35 : Cond.methodLink RX9 35 yX9_longer ∈ wsG := wsG_1 87 (by decide +kernel) (by decide +kernel)
theorem kc_X9_39 : Cond.constantLong RX9 39 (27) ∈ wsG := wsG_1 90 (by decide +kernel) (by decide +kernel)
theorem lk_X11_28 : Cond.methodLink RX11 28 yX2_init ∈ wsG := wsG_1 139 (by decide +kernel) (by decide +kernel)
theorem lk_X11_38 : Cond.methodLink RX11 38 yX3_init ∈ wsG := wsG_1 200 (by decide +kernel) (by decide +kernel)
theorem lk_X11_47 : Cond.methodLink RX11 47 yX6_init ∈ wsG := wsG_1 213 (by decide +kernel) (by decide +kernel)
theorem lk_X11_57 : Cond.methodLink RX11 57 yX7_init ∈ wsG := wsG_2 3 (by decide +kernel) (by decide +kernel)
theorem lk_X11_66 : Cond.methodLink RX11 66 yX1_init ∈ wsG := wsG_2 22 (by decide +kernel) (by decide +kernel)
theorem lk_X11_73 : Cond.methodLink RX11 73 yX4_init ∈ wsG := wsG_2 72 (by decide +kernel) (by decide +kernel)
theorem lk_X11_86 : Cond.methodLink RX11 86 yX5_init ∈ wsG := wsG_2 105 (by decide +kernel) (by decide +kernel)
theorem lk_X11_91 : Cond.methodLink RX11 91 yX8_init ∈ wsG := wsG_2 163 (by decide +kernel) (by decide +kernel)
theorem lk_X11_100 : Cond.methodLink RX11 100 yX0_init ∈ wsG := wsG_2 193 (by decide +kernel) (by decide +kernel)
theorem lk_X11_107 : Cond.methodLink RX11 107 yX10_init ∈ wsG := wsG_2 219 (by decide +kernel) (by decide +kernel)
theorem lk_L_13 : Cond.methodLink RL 13 yX11_feed ∈ wsG := wsG_3 76 (by decide +kernel) (by decide +kernel)
theorem lk_X11_117 : Cond.methodLink RX11 117 yX11_put ∈ wsG := wsG_3 80 (by decide +kernel) (by decide +kernel)
theorem lk_L_18 : Cond.methodLink RL 18 yX11_end ∈ wsG := wsG_3 84 (by decide +kernel) (by decide +kernel)
theorem lk_L_23 : Cond.methodLink RL 23 yX11_hill ∈ wsG := wsG_3 88 (by decide +kernel) (by decide +kernel)
theorem lk_X11_123 : Cond.methodLink RX11 123 yX9_open ∈ wsG := wsG_3 93 (by decide +kernel) (by decide +kernel)
theorem lk_X9_41 : Cond.methodLink RX9 41 yJ9_min_7cf53 ∈ wsG := wsG_3 97 (by decide +kernel) (by decide +kernel)
theorem lk_X9_61 : Cond.methodLink RX9 61 yX9_step ∈ wsG := wsG_3 100 (by decide +kernel) (by decide +kernel)
theorem lk_X9_70 : Cond.methodLink RX9 70 yX9_takeWord ∈ wsG := wsG_3 104 (by decide +kernel) (by decide +kernel)
theorem lk_X9_84 : Cond.methodLink RX9 84 yX9_kindOfWord ∈ wsG := wsG_3 108 (by decide +kernel) (by decide +kernel)
theorem lk_X9_73 : Cond.methodLink RX9 73 yX9_takeNumber ∈ wsG := wsG_3 112 (by decide +kernel) (by decide +kernel)
theorem lk_X9_76 : Cond.methodLink RX9 76 yJ0_indexOf_0f7a4 ∈ wsG := wsG_3 116 (by decide +kernel) (by decide +kernel)
theorem lk_J0_633 : Cond.methodLink RJ0 633 yJ0_indexOf_7cf53 ∈ wsG := wsG_3 120 (by decide +kernel) (by decide +kernel)
theorem lk_J0_505 : Cond.methodLink RJ0 505 yJ0_length_8abf5 ∈ wsG := wsG_3 124 (by decide +kernel) (by decide +kernel)
theorem lk_J0_637 : Cond.methodLink RJ0 637 yJ1_indexOf_4cfef ∈ wsG := wsG_3 125 (by decide +kernel) (by decide +kernel)
theorem lk_J1_88 : Cond.methodLink RJ1 88 yJ1_canEncode_9a6ad ∈ wsG := wsG_3 128 (by decide +kernel) (by decide +kernel)
theorem lk_J1_92 : Cond.methodLink RJ1 92 yJ9_max_7cf53 ∈ wsG := wsG_3 131 (by decide +kernel) (by decide +kernel)
theorem lk_J1_38 : Cond.methodLink RJ1 38 yJ9_min_7cf53 ∈ wsG := wsG_3 134 (by decide +kernel) (by decide +kernel)
theorem lk_J1_95 : Cond.methodLink RJ1 95 yJ1_indexOfChar_4cfef ∈ wsG := wsG_3 135 (by decide +kernel) (by decide +kernel)
theorem lk_J0_640 : Cond.methodLink RJ0 640 yJ2_indexOf_4cfef ∈ wsG := wsG_3 138 (by decide +kernel) (by decide +kernel)
theorem lk_J2_224 : Cond.methodLink RJ2 224 yJ9_max_7cf53 ∈ wsG := wsG_3 141 (by decide +kernel) (by decide +kernel)
theorem lk_J2_183 : Cond.methodLink RJ2 183 yJ9_min_7cf53 ∈ wsG := wsG_3 142 (by decide +kernel) (by decide +kernel)
theorem kc_J2_227 : Cond.constant RJ2 227 (65536) ∈ wsG := wsG_3 143 (by decide +kernel) (by decide +kernel)
theorem lk_J2_228 : Cond.methodLink RJ2 228 yJ2_indexOfChar_4cfef ∈ wsG := wsG_3 144 (by decide +kernel) (by decide +kernel)
theorem lk_J2_96 : Cond.methodLink RJ2 96 yJ2_checkBoundsBeginEnd_d044e ∈ wsG := wsG_3 147 (by decide +kernel) (by decide +kernel)
theorem lk_J2_241 : Cond.methodLink RJ2 241 yJ0_checkBoundsBeginEnd_23922 ∈ wsG := wsG_3 150 (by decide +kernel) (by decide +kernel)
theorem lk_J0_1062 : Cond.methodLink RJ0 1062 yJ3_checkFromToIndex_8c36e ∈ wsG := wsG_3 153 (by decide +kernel) (by decide +kernel)
theorem lk_J2_244 : Cond.methodLink RJ2 244 yJ2_indexOfCharUnsafe_4cfef ∈ wsG := wsG_3 156 (by decide +kernel) (by decide +kernel)
theorem lk_J2_232 : Cond.methodLink RJ2 232 yJ2_indexOfSupplementary_4cfef ∈ wsG := wsG_3 159 (by decide +kernel) (by decide +kernel)
theorem lk_J2_164 : Cond.methodLink RJ2 164 yJ11_isValidCodePoint_9a6ad ∈ wsG := wsG_3 162 (by decide +kernel) (by decide +kernel)
theorem lk_J2_157 : Cond.methodLink RJ2 157 yJ11_highSurrogate_5068e ∈ wsG := wsG_3 165 (by decide +kernel) (by decide +kernel)
theorem kc_J11_110 : Cond.constant RJ11 110 (55232) ∈ wsG := wsG_3 168 (by decide +kernel) (by decide +kernel)
theorem lk_J2_161 : Cond.methodLink RJ2 161 yJ11_lowSurrogate_5068e ∈ wsG := wsG_3 169 (by decide +kernel) (by decide +kernel)
theorem kc_J11_76 : Cond.constant RJ11 76 (56320) ∈ wsG := wsG_3 172 (by decide +kernel) (by decide +kernel)
theorem lk_X11_127 : Cond.methodLink RX11 127 yX3_parse ∈ wsG := wsG_3 173 (by decide +kernel) (by decide +kernel)
theorem lk_X3_19 : Cond.methodLink RX3 19 yX2_clear ∈ wsG := wsG_3 177 (by decide +kernel) (by decide +kernel)
theorem lk_X3_33 : Cond.methodLink RX3 33 yX3_boxLine ∈ wsG := wsG_3 181 (by decide +kernel) (by decide +kernel)
theorem lk_X3_50 : Cond.methodLink RX3 50 yX9_step ∈ wsG := wsG_3 185 (by decide +kernel) (by decide +kernel)
theorem lk_X3_53 : Cond.methodLink RX3 53 yX3_newName ∈ wsG := wsG_3 186 (by decide +kernel) (by decide +kernel)
theorem lk_X3_47 : Cond.methodLink RX3 47 yX9_refuse ∈ wsG := wsG_3 190 (by decide +kernel) (by decide +kernel)
theorem lk_X9_93 : Cond.methodLink RX9 93 yX9_fail ∈ wsG := wsG_3 194 (by decide +kernel) (by decide +kernel)
theorem lk_X3_96 : Cond.methodLink RX3 96 yX2_find ∈ wsG := wsG_3 198 (by decide +kernel) (by decide +kernel)
theorem lk_X3_88 : Cond.methodLink RX3 88 yX9_fail ∈ wsG := wsG_3 202 (by decide +kernel) (by decide +kernel)
theorem lk_X3_66 : Cond.methodLink RX3 66 yX9_take ∈ wsG := wsG_3 207 (by decide +kernel) (by decide +kernel)
theorem lk_X9_90 : Cond.methodLink RX9 90 yX9_refuse ∈ wsG := wsG_3 211 (by decide +kernel) (by decide +kernel)
theorem lk_X3_69 : Cond.methodLink RX3 69 yX3_takeNumber ∈ wsG := wsG_3 212 (by decide +kernel) (by decide +kernel)
theorem lk_X3_36 : Cond.methodLink RX3 36 yX3_isOtherLine ∈ wsG := wsG_3 216 (by decide +kernel) (by decide +kernel)
theorem lk_X3_43 : Cond.methodLink RX3 43 yX3_otherLine ∈ wsG := wsG_3 219 (by decide +kernel) (by decide +kernel)
theorem lk_X3_110 : Cond.methodLink RX3 110 yX3_oldName ∈ wsG := wsG_3 223 (by decide +kernel) (by decide +kernel)
theorem lk_X11_130 : Cond.methodLink RX11 130 yX11_closeText ∈ wsG := wsG_3 227 (by decide +kernel) (by decide +kernel)
theorem lk_X11_136 : Cond.methodLink RX11 136 yX2_become ∈ wsG := wsG_3 231 (by decide +kernel) (by decide +kernel)
theorem lk_X11_140 : Cond.methodLink RX11 140 yX6_clear ∈ wsG := wsG_3 238 (by decide +kernel) (by decide +kernel)
theorem lk_X11_143 : Cond.methodLink RX11 143 yX1_clear ∈ wsG := wsG_4 2 (by decide +kernel) (by decide +kernel)
theorem lk_L_28 : Cond.methodLink RL 28 yX11_rules ∈ wsG := wsG_4 6 (by decide +kernel) (by decide +kernel)
theorem lk_X11_152 : Cond.methodLink RX11 152 yX7_parse ∈ wsG := wsG_4 11 (by decide +kernel) (by decide +kernel)
theorem lk_X7_23 : Cond.methodLink RX7 23 yX6_clear ∈ wsG := wsG_4 15 (by decide +kernel) (by decide +kernel)
theorem lk_X7_40 : Cond.methodLink RX7 40 yX9_refuse ∈ wsG := wsG_4 16 (by decide +kernel) (by decide +kernel)
theorem lk_X7_43 : Cond.methodLink RX7 43 yX7_oneRule ∈ wsG := wsG_4 17 (by decide +kernel) (by decide +kernel)
theorem lk_X7_46 : Cond.methodLink RX7 46 yX9_step ∈ wsG := wsG_4 21 (by decide +kernel) (by decide +kernel)
theorem lk_X7_49 : Cond.methodLink RX7 49 yX7_either ∈ wsG := wsG_4 22 (by decide +kernel) (by decide +kernel)
theorem lk_X7_60 : Cond.methodLink RX7 60 yX7_both ∈ wsG := wsG_4 26 (by decide +kernel) (by decide +kernel)
theorem lk_X7_67 : Cond.methodLink RX7 67 yX7_one ∈ wsG := wsG_4 30 (by decide +kernel) (by decide +kernel)
theorem lk_X7_63 : Cond.methodLink RX7 63 yX6_addStep ∈ wsG := wsG_4 34 (by decide +kernel) (by decide +kernel)
theorem lk_X7_70 : Cond.methodLink RX7 70 yX7_addition ∈ wsG := wsG_4 38 (by decide +kernel) (by decide +kernel)
theorem lk_X7_73 : Cond.methodLink RX7 73 yX7_term ∈ wsG := wsG_4 42 (by decide +kernel) (by decide +kernel)
theorem lk_X7_76 : Cond.methodLink RX7 76 yX7_unit ∈ wsG := wsG_4 46 (by decide +kernel) (by decide +kernel)
theorem lk_X7_82 : Cond.methodLink RX7 82 yX7_name ∈ wsG := wsG_4 50 (by decide +kernel) (by decide +kernel)
theorem lk_X7_89 : Cond.methodLink RX7 89 yX2_find ∈ wsG := wsG_4 54 (by decide +kernel) (by decide +kernel)
theorem lk_X7_98 : Cond.methodLink RX7 98 yX9_fail ∈ wsG := wsG_4 55 (by decide +kernel) (by decide +kernel)
theorem lk_X7_53 : Cond.methodLink RX7 53 yX9_take ∈ wsG := wsG_4 56 (by decide +kernel) (by decide +kernel)
theorem lk_X7_56 : Cond.methodLink RX7 56 yX6_close ∈ wsG := wsG_4 57 (by decide +kernel) (by decide +kernel)
theorem lk_X11_153 : Cond.methodLink RX11 153 yX6_become ∈ wsG := wsG_4 61 (by decide +kernel) (by decide +kernel)
theorem lk_L_32 : Cond.methodLink RL 32 yX11_fault ∈ wsG := wsG_4 66 (by decide +kernel) (by decide +kernel)
theorem lk_L_36 : Cond.methodLink RL 36 yX11_share ∈ wsG := wsG_4 70 (by decide +kernel) (by decide +kernel)
theorem lk_X11_159 : Cond.methodLink RX11 159 yX11_isDay ∈ wsG := wsG_4 74 (by decide +kernel) (by decide +kernel)
theorem lk_X11_163 : Cond.methodLink RX11 163 yX1_setShared ∈ wsG := wsG_4 77 (by decide +kernel) (by decide +kernel)
theorem lk_X1_48 : Cond.methodLink RX1 48 yX1_isShared ∈ wsG := wsG_4 81 (by decide +kernel) (by decide +kernel)
theorem lk_L_41 : Cond.methodLink RL 41 yX11_far ∈ wsG := wsG_4 85 (by decide +kernel) (by decide +kernel)
theorem lk_X11_167 : Cond.methodLink RX11 167 yX11_isQuantity ∈ wsG := wsG_4 89 (by decide +kernel) (by decide +kernel)
theorem lk_X11_177 : Cond.methodLink RX11 177 yX1_tell ∈ wsG := wsG_4 96 (by decide +kernel) (by decide +kernel)
theorem lk_L_46 : Cond.methodLink RL 46 yX11_read ∈ wsG := wsG_4 100 (by decide +kernel) (by decide +kernel)
theorem lk_X11_181 : Cond.methodLink RX11 181 yX11_isSpot ∈ wsG := wsG_4 104 (by decide +kernel) (by decide +kernel)
theorem lk_X11_296 : Cond.methodLink RX11 296 yX2_has ∈ wsG := wsG_4 108 (by decide +kernel) (by decide +kernel)
theorem lk_X11_185 : Cond.methodLink RX11 185 yX11_isReader ∈ wsG := wsG_4 112 (by decide +kernel) (by decide +kernel)
theorem lk_X11_188 : Cond.methodLink RX11 188 yX2_isWind ∈ wsG := wsG_4 115 (by decide +kernel) (by decide +kernel)
theorem lk_L_51 : Cond.methodLink RL 51 yX11_doubt ∈ wsG := wsG_4 119 (by decide +kernel) (by decide +kernel)
theorem lk_X11_191 : Cond.methodLink RX11 191 yX1_setDoubted ∈ wsG := wsG_4 123 (by decide +kernel) (by decide +kernel)
theorem lk_X1_52 : Cond.methodLink RX1 52 yX1_isDoubted ∈ wsG := wsG_4 127 (by decide +kernel) (by decide +kernel)
theorem lk_L_55 : Cond.methodLink RL 55 yX11_untell ∈ wsG := wsG_4 131 (by decide +kernel) (by decide +kernel)
theorem lk_X11_194 : Cond.methodLink RX11 194 yX1_takeBack ∈ wsG := wsG_4 135 (by decide +kernel) (by decide +kernel)
theorem lk_L_60 : Cond.methodLink RL 60 yX11_later ∈ wsG := wsG_4 139 (by decide +kernel) (by decide +kernel)
theorem lk_X11_197 : Cond.methodLink RX11 197 yX1_goOn ∈ wsG := wsG_4 143 (by decide +kernel) (by decide +kernel)
theorem kc_X1_47 : Cond.constant RX1 47 (100000) ∈ wsG := wsG_4 147 (by decide +kernel) (by decide +kernel)
theorem lk_L_64 : Cond.methodLink RL 64 yX11_farOf ∈ wsG := wsG_4 148 (by decide +kernel) (by decide +kernel)
theorem lk_X11_201 : Cond.methodLink RX11 201 yX4_at ∈ wsG := wsG_4 152 (by decide +kernel) (by decide +kernel)
theorem kc_X4_46 : Cond.constant RX4 46 (-100000) ∈ wsG := wsG_4 156 (by decide +kernel) (by decide +kernel)
theorem lk_X4_47 : Cond.methodLink RX4 47 yJ7_fill_53178 ∈ wsG := wsG_4 157 (by decide +kernel) (by decide +kernel)
theorem lk_X4_56 : Cond.methodLink RX4 56 yX1_isKnown ∈ wsG := wsG_4 160 (by decide +kernel) (by decide +kernel)
theorem lk_X4_60 : Cond.methodLink RX4 60 yX4_enter ∈ wsG := wsG_4 164 (by decide +kernel) (by decide +kernel)
theorem lk_X4_74 : Cond.methodLink RX4 74 yX1_isDoubted ∈ wsG := wsG_4 168 (by decide +kernel) (by decide +kernel)
theorem lk_X4_78 : Cond.methodLink RX4 78 yX2_canRead ∈ wsG := wsG_4 169 (by decide +kernel) (by decide +kernel)
theorem lk_X2_76 : Cond.methodLink RX2 76 yX2_isWithin ∈ wsG := wsG_4 173 (by decide +kernel) (by decide +kernel)
theorem lk_X2_69 : Cond.methodLink RX2 69 yX2_isOf ∈ wsG := wsG_4 177 (by decide +kernel) (by decide +kernel)
theorem lk_X11_204 : Cond.methodLink RX11 204 yX4_distant ∈ wsG := wsG_4 181 (by decide +kernel) (by decide +kernel)
theorem lk_L_68 : Cond.methodLink RL 68 yX11_reading ∈ wsG := wsG_4 185 (by decide +kernel) (by decide +kernel)
theorem lk_X11_208 : Cond.methodLink RX11 208 yX4_number ∈ wsG := wsG_4 189 (by decide +kernel) (by decide +kernel)
theorem lk_L_72 : Cond.methodLink RL 72 yX11_laws ∈ wsG := wsG_4 193 (by decide +kernel) (by decide +kernel)
theorem lk_X11_211 : Cond.methodLink RX11 211 yX11_fitted ∈ wsG := wsG_4 197 (by decide +kernel) (by decide +kernel)
theorem lk_X11_269 : Cond.methodLink RX11 269 yX5_fit ∈ wsG := wsG_4 201 (by decide +kernel) (by decide +kernel)
theorem lk_X5_66 : Cond.methodLink RX5 66 yX2_firstDay ∈ wsG := wsG_4 205 (by decide +kernel) (by decide +kernel)
theorem lk_X2_73 : Cond.methodLink RX2 73 yJ9_max_7cf53 ∈ wsG := wsG_4 209 (by decide +kernel) (by decide +kernel)
theorem lk_X5_72 : Cond.methodLink RX5 72 yX2_lastDay ∈ wsG := wsG_4 210 (by decide +kernel) (by decide +kernel)
theorem lk_X2_63 : Cond.methodLink RX2 63 yJ9_min_7cf53 ∈ wsG := wsG_4 214 (by decide +kernel) (by decide +kernel)
theorem lk_X5_75 : Cond.methodLink RX5 75 yX5_listBends ∈ wsG := wsG_4 215 (by decide +kernel) (by decide +kernel)
theorem lk_X5_93 : Cond.methodLink RX5 93 yX2_low ∈ wsG := wsG_4 219 (by decide +kernel) (by decide +kernel)
theorem lk_X5_90 : Cond.methodLink RX5 90 yX2_high ∈ wsG := wsG_4 223 (by decide +kernel) (by decide +kernel)
theorem lk_X5_78 : Cond.methodLink RX5 78 yJ7_fill_53178 ∈ wsG := wsG_4 227 (by decide +kernel) (by decide +kernel)
theorem lk_X5_96 : Cond.methodLink RX5 96 yX4_number ∈ wsG := wsG_4 228 (by decide +kernel) (by decide +kernel)
theorem kc_X5_53 : Cond.constant RX5 53 (-100000) ∈ wsG := wsG_4 229 (by decide +kernel) (by decide +kernel)
theorem lk_X5_99 : Cond.methodLink RX5 99 yX1_isShared ∈ wsG := wsG_4 230 (by decide +kernel) (by decide +kernel)
theorem lk_X5_105 : Cond.methodLink RX5 105 yX5_tryDay ∈ wsG := wsG_4 231 (by decide +kernel) (by decide +kernel)
theorem lk_X5_111 : Cond.methodLink RX5 111 yX2_age ∈ wsG := wsG_4 235 (by decide +kernel) (by decide +kernel)
theorem lk_X5_114 : Cond.methodLink RX5 114 yX5_withoutZero ∈ wsG := wsG_4 239 (by decide +kernel) (by decide +kernel)
theorem lk_X5_47 : Cond.methodLink RX5 47 yX5_lagOf ∈ wsG := wsG_5 3 (by decide +kernel) (by decide +kernel)
theorem lk_X5_136 : Cond.methodLink RX5 136 yX4_distant ∈ wsG := wsG_5 6 (by decide +kernel) (by decide +kernel)
theorem lk_X5_44 : Cond.methodLink RX5 44 yX5_slopeOf ∈ wsG := wsG_5 7 (by decide +kernel) (by decide +kernel)
theorem lk_X5_139 : Cond.methodLink RX5 139 yJ9_floorDiv_7cf53 ∈ wsG := wsG_5 10 (by decide +kernel) (by decide +kernel)
theorem lk_X5_50 : Cond.methodLink RX5 50 yX5_tireOf ∈ wsG := wsG_5 13 (by decide +kernel) (by decide +kernel)
theorem lk_X5_118 : Cond.methodLink RX5 118 yX2_fits ∈ wsG := wsG_5 16 (by decide +kernel) (by decide +kernel)
theorem lk_X2_53 : Cond.methodLink RX2 53 yJ9_abs_0f7a4 ∈ wsG := wsG_5 20 (by decide +kernel) (by decide +kernel)
theorem lk_X2_59 : Cond.methodLink RX2 59 yX2_isWind ∈ wsG := wsG_5 23 (by decide +kernel) (by decide +kernel)
theorem lk_X5_108 : Cond.methodLink RX5 108 yX5_choose ∈ wsG := wsG_5 24 (by decide +kernel) (by decide +kernel)
theorem lk_X5_125 : Cond.methodLink RX5 125 yJ9_min_7cf53 ∈ wsG := wsG_5 28 (by decide +kernel) (by decide +kernel)
theorem lk_L_76 : Cond.methodLink RL 76 yX11_law ∈ wsG := wsG_5 29 (by decide +kernel) (by decide +kernel)
theorem kc_X11_216 : Cond.constant RX11 216 (-100000) ∈ wsG := wsG_5 33 (by decide +kernel) (by decide +kernel)
theorem lk_X11_220 : Cond.methodLink RX11 220 yX5_part ∈ wsG := wsG_5 34 (by decide +kernel) (by decide +kernel)
theorem lk_X5_40 : Cond.methodLink RX5 40 yX5_zeroOf ∈ wsG := wsG_5 37 (by decide +kernel) (by decide +kernel)
theorem lk_L_80 : Cond.methodLink RL 80 yX11_misses ∈ wsG := wsG_5 40 (by decide +kernel) (by decide +kernel)
theorem lk_L_84 : Cond.methodLink RL 84 yX11_shows ∈ wsG := wsG_5 44 (by decide +kernel) (by decide +kernel)
theorem lk_X11_226 : Cond.methodLink RX11 226 yX5_byFirst ∈ wsG := wsG_5 48 (by decide +kernel) (by decide +kernel)
theorem lk_X5_148 : Cond.methodLink RX5 148 yX5_by ∈ wsG := wsG_5 52 (by decide +kernel) (by decide +kernel)
theorem lk_X5_142 : Cond.methodLink RX5 142 yX2_isWind ∈ wsG := wsG_5 56 (by decide +kernel) (by decide +kernel)
theorem lk_X5_145 : Cond.methodLink RX5 145 yJ9_floorMod_7cf53 ∈ wsG := wsG_5 57 (by decide +kernel) (by decide +kernel)
theorem lk_L_88 : Cond.methodLink RL 88 yX11_frost ∈ wsG := wsG_5 60 (by decide +kernel) (by decide +kernel)
theorem lk_L_92 : Cond.methodLink RL 92 yX11_shown ∈ wsG := wsG_5 64 (by decide +kernel) (by decide +kernel)
theorem lk_X11_232 : Cond.methodLink RX11 232 yX5_extreme ∈ wsG := wsG_5 68 (by decide +kernel) (by decide +kernel)
theorem lk_L_97 : Cond.methodLink RL 97 yX11_wrong ∈ wsG := wsG_5 72 (by decide +kernel) (by decide +kernel)
theorem lk_X11_236 : Cond.methodLink RX11 236 yX0_look ∈ wsG := wsG_5 76 (by decide +kernel) (by decide +kernel)
theorem kc_X0_39 : Cond.constant RX0 39 (-100000) ∈ wsG := wsG_5 80 (by decide +kernel) (by decide +kernel)
theorem lk_X0_40 : Cond.methodLink RX0 40 yX4_number ∈ wsG := wsG_5 81 (by decide +kernel) (by decide +kernel)
theorem lk_X0_46 : Cond.methodLink RX0 46 yX5_fit ∈ wsG := wsG_5 82 (by decide +kernel) (by decide +kernel)
theorem lk_X0_52 : Cond.methodLink RX0 52 yX5_byFirst ∈ wsG := wsG_5 83 (by decide +kernel) (by decide +kernel)
theorem lk_X11_240 : Cond.methodLink RX11 240 yX0_kindOf ∈ wsG := wsG_5 84 (by decide +kernel) (by decide +kernel)
theorem lk_X0_56 : Cond.methodLink RX0 56 yX2_fits ∈ wsG := wsG_5 88 (by decide +kernel) (by decide +kernel)
theorem lk_X0_60 : Cond.methodLink RX0 60 yX2_isWind ∈ wsG := wsG_5 89 (by decide +kernel) (by decide +kernel)
theorem lk_X0_64 : Cond.methodLink RX0 64 yX0_isInAnotherRow ∈ wsG := wsG_5 90 (by decide +kernel) (by decide +kernel)
theorem lk_L_101 : Cond.methodLink RL 101 yX11_habit ∈ wsG := wsG_5 94 (by decide +kernel) (by decide +kernel)
theorem lk_X11_243 : Cond.methodLink RX11 243 yX0_worst ∈ wsG := wsG_5 98 (by decide +kernel) (by decide +kernel)
theorem lk_X0_70 : Cond.methodLink RX0 70 yX0_count ∈ wsG := wsG_5 102 (by decide +kernel) (by decide +kernel)
theorem lk_X0_73 : Cond.methodLink RX0 73 yJ7_fill_53178 ∈ wsG := wsG_5 106 (by decide +kernel) (by decide +kernel)
theorem lk_X0_79 : Cond.methodLink RX0 79 yX0_kindOf ∈ wsG := wsG_5 107 (by decide +kernel) (by decide +kernel)
theorem lk_X0_82 : Cond.methodLink RX0 82 yX4_readerOf ∈ wsG := wsG_5 108 (by decide +kernel) (by decide +kernel)
theorem lk_L_106 : Cond.methodLink RL 106 yX11_right ∈ wsG := wsG_5 113 (by decide +kernel) (by decide +kernel)
theorem lk_X11_250 : Cond.methodLink RX11 250 yX8_find ∈ wsG := wsG_5 117 (by decide +kernel) (by decide +kernel)
theorem kc_X8_30 : Cond.constant RX8 30 (-100000) ∈ wsG := wsG_5 121 (by decide +kernel) (by decide +kernel)
theorem lk_X8_40 : Cond.methodLink RX8 40 yX2_low ∈ wsG := wsG_5 122 (by decide +kernel) (by decide +kernel)
theorem lk_X8_44 : Cond.methodLink RX8 44 yX2_high ∈ wsG := wsG_5 123 (by decide +kernel) (by decide +kernel)
theorem lk_X8_47 : Cond.methodLink RX8 47 yX4_number ∈ wsG := wsG_5 124 (by decide +kernel) (by decide +kernel)
theorem lk_X8_52 : Cond.methodLink RX8 52 yX5_fit ∈ wsG := wsG_5 125 (by decide +kernel) (by decide +kernel)
theorem lk_X8_58 : Cond.methodLink RX8 58 yX8_widen ∈ wsG := wsG_5 126 (by decide +kernel) (by decide +kernel)
theorem lk_X8_62 : Cond.methodLink RX8 62 yX2_age ∈ wsG := wsG_5 130 (by decide +kernel) (by decide +kernel)
theorem lk_X8_71 : Cond.methodLink RX8 71 yX5_lagOf ∈ wsG := wsG_5 131 (by decide +kernel) (by decide +kernel)
theorem lk_X8_75 : Cond.methodLink RX8 75 yX5_zeroOf ∈ wsG := wsG_5 132 (by decide +kernel) (by decide +kernel)
theorem lk_X8_78 : Cond.methodLink RX8 78 yX5_tireOf ∈ wsG := wsG_5 133 (by decide +kernel) (by decide +kernel)
theorem lk_X8_81 : Cond.methodLink RX8 81 yX2_isWind ∈ wsG := wsG_5 134 (by decide +kernel) (by decide +kernel)
theorem lk_X8_85 : Cond.methodLink RX8 85 yX8_widenRound ∈ wsG := wsG_5 135 (by decide +kernel) (by decide +kernel)
theorem lk_X8_95 : Cond.methodLink RX8 95 yJ9_floorMod_7cf53 ∈ wsG := wsG_5 139 (by decide +kernel) (by decide +kernel)
theorem lk_X8_100 : Cond.methodLink RX8 100 yX2_fits ∈ wsG := wsG_5 140 (by decide +kernel) (by decide +kernel)
theorem lk_X8_104 : Cond.methodLink RX8 104 yX8_include ∈ wsG := wsG_5 141 (by decide +kernel) (by decide +kernel)
theorem lk_X8_126 : Cond.methodLink RX8 126 yJ9_min_7cf53 ∈ wsG := wsG_5 145 (by decide +kernel) (by decide +kernel)
theorem lk_X8_120 : Cond.methodLink RX8 120 yJ9_max_7cf53 ∈ wsG := wsG_5 146 (by decide +kernel) (by decide +kernel)
theorem lk_X8_89 : Cond.methodLink RX8 89 yX5_slopeOf ∈ wsG := wsG_5 147 (by decide +kernel) (by decide +kernel)
theorem lk_X8_92 : Cond.methodLink RX8 92 yX8_widenStraight ∈ wsG := wsG_5 148 (by decide +kernel) (by decide +kernel)
theorem lk_X8_114 : Cond.methodLink RX8 114 yX8_firstReaching ∈ wsG := wsG_5 152 (by decide +kernel) (by decide +kernel)
theorem lk_X8_129 : Cond.methodLink RX8 129 yJ9_floorDiv_7cf53 ∈ wsG := wsG_5 155 (by decide +kernel) (by decide +kernel)
theorem lk_L_110 : Cond.methodLink RL 110 yX11_sum ∈ wsG := wsG_5 158 (by decide +kernel) (by decide +kernel)
theorem lk_X11_259 : Cond.methodLink RX11 259 yX11_isRange ∈ wsG := wsG_5 162 (by decide +kernel) (by decide +kernel)
theorem lk_L_114 : Cond.methodLink RL 114 yX11_sure ∈ wsG := wsG_5 166 (by decide +kernel) (by decide +kernel)
theorem lk_X11_262 : Cond.methodLink RX11 262 yX8_surest ∈ wsG := wsG_5 170 (by decide +kernel) (by decide +kernel)
theorem lk_X8_132 : Cond.methodLink RX8 132 yX8_find ∈ wsG := wsG_5 174 (by decide +kernel) (by decide +kernel)
theorem lk_X8_136 : Cond.methodLink RX8 136 yX8_greatestBeside ∈ wsG := wsG_5 175 (by decide +kernel) (by decide +kernel)
theorem lk_L_118 : Cond.methodLink RL 118 yX11_lies ∈ wsG := wsG_5 179 (by decide +kernel) (by decide +kernel)
theorem lk_X11_266 : Cond.methodLink RX11 266 yX8_liar ∈ wsG := wsG_5 183 (by decide +kernel) (by decide +kernel)
theorem lk_X8_143 : Cond.methodLink RX8 143 yX8_isBesideTwo ∈ wsG := wsG_5 187 (by decide +kernel) (by decide +kernel)
theorem lk_X8_146 : Cond.methodLink RX8 146 yX8_isApart ∈ wsG := wsG_5 191 (by decide +kernel) (by decide +kernel)
theorem lk_L_122 : Cond.methodLink RL 122 yX11_next ∈ wsG := wsG_5 195 (by decide +kernel) (by decide +kernel)
theorem lk_L_126 : Cond.methodLink RL 126 yX11_says ∈ wsG := wsG_5 199 (by decide +kernel) (by decide +kernel)
theorem lk_X11_272 : Cond.methodLink RX11 272 yX10_ruleFor ∈ wsG := wsG_5 203 (by decide +kernel) (by decide +kernel)
theorem lk_X10_42 : Cond.methodLink RX10 42 yX6_holds ∈ wsG := wsG_5 207 (by decide +kernel) (by decide +kernel)
theorem lk_X6_37 : Cond.methodLink RX6 37 yX6_isUnit ∈ wsG := wsG_5 211 (by decide +kernel) (by decide +kernel)
theorem kc_X6_41 : Cond.constant RX6 41 (65535) ∈ wsG := wsG_5 214 (by decide +kernel) (by decide +kernel)
theorem lk_X6_42 : Cond.methodLink RX6 42 yX6_unit ∈ wsG := wsG_5 215 (by decide +kernel) (by decide +kernel)
theorem lk_X6_57 : Cond.methodLink RX6 57 yX4_number ∈ wsG := wsG_5 218 (by decide +kernel) (by decide +kernel)
theorem kc_X6_46 : Cond.constant RX6 46 (-100000) ∈ wsG := wsG_5 219 (by decide +kernel) (by decide +kernel)
theorem lk_X6_49 : Cond.methodLink RX6 49 yX6_bit ∈ wsG := wsG_5 220 (by decide +kernel) (by decide +kernel)
theorem lk_X6_53 : Cond.methodLink RX6 53 yX6_joined ∈ wsG := wsG_5 223 (by decide +kernel) (by decide +kernel)
theorem lk_L_130 : Cond.methodLink RL 130 yX11_tried ∈ wsG := wsG_5 226 (by decide +kernel) (by decide +kernel)
theorem lk_X11_278 : Cond.methodLink RX11 278 yX10_run ∈ wsG := wsG_5 230 (by decide +kernel) (by decide +kernel)
theorem lk_X10_58 : Cond.methodLink RX10 58 yJ7_fill_53178 ∈ wsG := wsG_5 234 (by decide +kernel) (by decide +kernel)
theorem lk_X10_64 : Cond.methodLink RX10 64 yX4_distant ∈ wsG := wsG_5 235 (by decide +kernel) (by decide +kernel)
theorem kc_X10_70 : Cond.constant RX10 70 (-100000) ∈ wsG := wsG_5 236 (by decide +kernel) (by decide +kernel)
theorem lk_X10_71 : Cond.methodLink RX10 71 yX2_isMade ∈ wsG := wsG_5 237 (by decide +kernel) (by decide +kernel)
theorem lk_X10_77 : Cond.methodLink RX10 77 yX10_tryDay ∈ wsG := wsG_6 1 (by decide +kernel) (by decide +kernel)
theorem lk_X10_81 : Cond.methodLink RX10 81 yX10_ruleFor ∈ wsG := wsG_6 5 (by decide +kernel) (by decide +kernel)
theorem lk_X11_281 : Cond.methodLink RX11 281 yX10_worth ∈ wsG := wsG_6 6 (by decide +kernel) (by decide +kernel)
theorem lk_X10_88 : Cond.methodLink RX10 88 yJ9_max_7cf53 ∈ wsG := wsG_6 10 (by decide +kernel) (by decide +kernel)
theorem lk_L_134 : Cond.methodLink RL 134 yX11_luck ∈ wsG := wsG_6 11 (by decide +kernel) (by decide +kernel)
theorem kc_X11_290 : Cond.constantLong RX11 290 (-1) ∈ wsG := wsG_6 15 (by decide +kernel) (by decide +kernel)
theorem lk_X11_292 : Cond.methodLink RX11 292 yX10_chance ∈ wsG := wsG_6 16 (by decide +kernel) (by decide +kernel)
theorem lk_X10_93 : Cond.methodLink RX10 93 yX10_choices ∈ wsG := wsG_6 20 (by decide +kernel) (by decide +kernel)
theorem lk_X10_97 : Cond.methodLink RX10 97 yX10_commonDivisor ∈ wsG := wsG_6 23 (by decide +kernel) (by decide +kernel)
theorem kc_X10_101 : Cond.constantLong RX10 101 (-1) ∈ wsG := wsG_6 26 (by decide +kernel) (by decide +kernel)
theorem lk_L_139 : Cond.methodLink RL 139 yX11_learnt ∈ wsG := wsG_6 27 (by decide +kernel) (by decide +kernel)
theorem lk_X11_299 : Cond.methodLink RX11 299 yX10_learn ∈ wsG := wsG_6 31 (by decide +kernel) (by decide +kernel)
theorem lk_X10_103 : Cond.methodLink RX10 103 yX10_gather ∈ wsG := wsG_6 35 (by decide +kernel) (by decide +kernel)
theorem lk_X10_113 : Cond.methodLink RX10 113 yX4_number ∈ wsG := wsG_6 39 (by decide +kernel) (by decide +kernel)
theorem lk_X10_110 : Cond.methodLink RX10 110 yX10_hitsBy ∈ wsG := wsG_6 40 (by decide +kernel) (by decide +kernel)
theorem lk_L_143 : Cond.methodLink RL 143 yX11_rule ∈ wsG := wsG_6 44 (by decide +kernel) (by decide +kernel)
theorem lk_L_147 : Cond.methodLink RL 147 yX11_about ∈ wsG := wsG_6 48 (by decide +kernel) (by decide +kernel)
theorem lk_X11_316 : Cond.methodLink RX11 316 yJ13_bitCount_95d88 ∈ wsG := wsG_6 52 (by decide +kernel) (by decide +kernel)
theorem kc_J13_314 : Cond.constantLong RJ13 314 (6148914691236517205) ∈ wsG := wsG_6 55 (by decide +kernel) (by decide +kernel)
theorem kc_J13_316 : Cond.constantLong RJ13 316 (3689348814741910323) ∈ wsG := wsG_6 56 (by decide +kernel) (by decide +kernel)
theorem kc_J13_318 : Cond.constantLong RJ13 318 (1085102592571150095) ∈ wsG := wsG_6 57 (by decide +kernel) (by decide +kernel)
theorem lk_L_12 : Cond.methodLink RL 12 yX12_init ∈ wsG := wsG_6 60 (by decide +kernel) (by decide +kernel)
theorem lk_L_17 : Cond.methodLink RL 17 yX12_feed ∈ wsG := wsG_7 69 (by decide +kernel) (by decide +kernel)
theorem lk_X12_169 : Cond.methodLink RX12 169 yX12_four ∈ wsG := wsG_7 73 (by decide +kernel) (by decide +kernel)
theorem lk_L_22 : Cond.methodLink RL 22 yX12_end ∈ wsG := wsG_7 77 (by decide +kernel) (by decide +kernel)
theorem lk_L_27 : Cond.methodLink RL 27 yX12_hill ∈ wsG := wsG_7 81 (by decide +kernel) (by decide +kernel)
theorem lk_X12_308 : Cond.methodLink RX12 308 yX12_start ∈ wsG := wsG_7 85 (by decide +kernel) (by decide +kernel)
theorem lk_X12_213 : Cond.methodLink RX12 213 yX12_token ∈ wsG := wsG_7 89 (by decide +kernel) (by decide +kernel)
theorem lk_X12_183 : Cond.methodLink RX12 183 yX12_here ∈ wsG := wsG_7 93 (by decide +kernel) (by decide +kernel)
theorem lk_X12_200 : Cond.methodLink RX12 200 yX12_isLetter ∈ wsG := wsG_7 97 (by decide +kernel) (by decide +kernel)
theorem lk_X12_204 : Cond.methodLink RX12 204 yX12_isDigit ∈ wsG := wsG_7 100 (by decide +kernel) (by decide +kernel)
theorem lk_X12_207 : Cond.methodLink RX12 207 yX12_isSign ∈ wsG := wsG_7 103 (by decide +kernel) (by decide +kernel)
theorem kc_X12_216 : Cond.constantLong RX12 216 (6451064) ∈ wsG := wsG_7 107 (by decide +kernel) (by decide +kernel)
theorem lk_X12_268 : Cond.methodLink RX12 268 yX12_isWord ∈ wsG := wsG_7 108 (by decide +kernel) (by decide +kernel)
theorem lk_X12_312 : Cond.methodLink RX12 312 yX12_readBox ∈ wsG := wsG_7 112 (by decide +kernel) (by decide +kernel)
theorem lk_X12_289 : Cond.methodLink RX12 289 yX12_isName ∈ wsG := wsG_7 116 (by decide +kernel) (by decide +kernel)
theorem kc_X12_218 : Cond.constantLong RX12 218 (2002874989) ∈ wsG := wsG_7 120 (by decide +kernel) (by decide +kernel)
theorem kc_X12_220 : Cond.constantLong RX12 220 (1684106608) ∈ wsG := wsG_7 121 (by decide +kernel) (by decide +kernel)
theorem kc_X12_222 : Cond.constantLong RX12 222 (1918986606) ∈ wsG := wsG_7 122 (by decide +kernel) (by decide +kernel)
theorem kc_X12_224 : Cond.constantLong RX12 224 (2003398244) ∈ wsG := wsG_7 123 (by decide +kernel) (by decide +kernel)
theorem kc_X12_226 : Cond.constantLong RX12 226 (2053468783) ∈ wsG := wsG_7 124 (by decide +kernel) (by decide +kernel)
theorem kc_X12_228 : Cond.constantLong RX12 228 (29807) ∈ wsG := wsG_7 125 (by decide +kernel) (by decide +kernel)
theorem kc_X12_230 : Cond.constantLong RX12 230 (495740481637) ∈ wsG := wsG_7 126 (by decide +kernel) (by decide +kernel)
theorem kc_X12_232 : Cond.constantLong RX12 232 (7102823) ∈ wsG := wsG_7 127 (by decide +kernel) (by decide +kernel)
theorem kc_X12_234 : Cond.constantLong RX12 234 (1953067621) ∈ wsG := wsG_7 128 (by decide +kernel) (by decide +kernel)
theorem kc_X12_236 : Cond.constantLong RX12 236 (7300710) ∈ wsG := wsG_7 129 (by decide +kernel) (by decide +kernel)
theorem kc_X12_238 : Cond.constantLong RX12 238 (470021465444) ∈ wsG := wsG_7 130 (by decide +kernel) (by decide +kernel)
theorem kc_X12_240 : Cond.constantLong RX12 240 (440005915496) ∈ wsG := wsG_7 131 (by decide +kernel) (by decide +kernel)
theorem kc_X12_242 : Cond.constantLong RX12 242 (28526) ∈ wsG := wsG_7 132 (by decide +kernel) (by decide +kernel)
theorem kc_X12_244 : Cond.constantLong RX12 244 (108243635103086) ∈ wsG := wsG_7 133 (by decide +kernel) (by decide +kernel)
theorem kc_X12_246 : Cond.constantLong RX12 246 (29395908993245561) ∈ wsG := wsG_7 134 (by decide +kernel) (by decide +kernel)
theorem kc_X12_248 : Cond.constantLong RX12 248 (1835099237) ∈ wsG := wsG_7 135 (by decide +kernel) (by decide +kernel)
theorem kc_X12_250 : Cond.constantLong RX12 250 (26982) ∈ wsG := wsG_7 136 (by decide +kernel) (by decide +kernel)
theorem kc_X12_252 : Cond.constantLong RX12 252 (7561593) ∈ wsG := wsG_7 137 (by decide +kernel) (by decide +kernel)
theorem kc_X12_254 : Cond.constantLong RX12 254 (7824756) ∈ wsG := wsG_7 138 (by decide +kernel) (by decide +kernel)
theorem kc_X12_256 : Cond.constantLong RX12 256 (6582905) ∈ wsG := wsG_7 139 (by decide +kernel) (by decide +kernel)
theorem kc_X12_258 : Cond.constantLong RX12 258 (1818325876) ∈ wsG := wsG_7 140 (by decide +kernel) (by decide +kernel)
theorem kc_X12_260 : Cond.constantLong RX12 260 (6578553) ∈ wsG := wsG_7 141 (by decide +kernel) (by decide +kernel)
theorem kc_X12_262 : Cond.constantLong RX12 262 (6385252) ∈ wsG := wsG_7 142 (by decide +kernel) (by decide +kernel)
theorem kc_X12_264 : Cond.constantLong RX12 264 (28530) ∈ wsG := wsG_7 143 (by decide +kernel) (by decide +kernel)
theorem kc_X12_266 : Cond.constantLong RX12 266 (7237492) ∈ wsG := wsG_7 144 (by decide +kernel) (by decide +kernel)
theorem lk_X12_272 : Cond.methodLink RX12 272 yX12_spoil ∈ wsG := wsG_7 145 (by decide +kernel) (by decide +kernel)
theorem lk_X12_293 : Cond.methodLink RX12 293 yX12_boxOf ∈ wsG := wsG_7 149 (by decide +kernel) (by decide +kernel)
theorem lk_X12_297 : Cond.methodLink RX12 297 yX12_readRange ∈ wsG := wsG_7 153 (by decide +kernel) (by decide +kernel)
theorem lk_X12_278 : Cond.methodLink RX12 278 yX12_want ∈ wsG := wsG_7 157 (by decide +kernel) (by decide +kernel)
theorem lk_X12_282 : Cond.methodLink RX12 282 yX12_signed ∈ wsG := wsG_7 161 (by decide +kernel) (by decide +kernel)
theorem lk_X12_286 : Cond.methodLink RX12 286 yX12_told ∈ wsG := wsG_7 165 (by decide +kernel) (by decide +kernel)
theorem lk_X12_315 : Cond.methodLink RX12 315 yX12_isOther ∈ wsG := wsG_7 169 (by decide +kernel) (by decide +kernel)
theorem lk_X12_318 : Cond.methodLink RX12 318 yX12_readOther ∈ wsG := wsG_7 173 (by decide +kernel) (by decide +kernel)
theorem lk_X12_301 : Cond.methodLink RX12 301 yX12_oldBox ∈ wsG := wsG_7 177 (by decide +kernel) (by decide +kernel)
theorem lk_L_35 : Cond.methodLink RL 35 yX12_fault ∈ wsG := wsG_7 181 (by decide +kernel) (by decide +kernel)
theorem lk_L_40 : Cond.methodLink RL 40 yX12_share ∈ wsG := wsG_7 185 (by decide +kernel) (by decide +kernel)
theorem lk_X12_333 : Cond.methodLink RX12 333 yX12_isDay ∈ wsG := wsG_7 189 (by decide +kernel) (by decide +kernel)
theorem lk_L_45 : Cond.methodLink RL 45 yX12_far ∈ wsG := wsG_7 192 (by decide +kernel) (by decide +kernel)
theorem lk_X12_339 : Cond.methodLink RX12 339 yX12_leastOf ∈ wsG := wsG_7 196 (by decide +kernel) (by decide +kernel)
theorem lk_X12_342 : Cond.methodLink RX12 342 yX12_mostOf ∈ wsG := wsG_7 199 (by decide +kernel) (by decide +kernel)
theorem lk_X12_345 : Cond.methodLink RX12 345 yX12_add ∈ wsG := wsG_7 202 (by decide +kernel) (by decide +kernel)
theorem lk_L_50 : Cond.methodLink RL 50 yX12_read ∈ wsG := wsG_7 206 (by decide +kernel) (by decide +kernel)
theorem lk_X12_349 : Cond.methodLink RX12 349 yX12_isBox ∈ wsG := wsG_7 210 (by decide +kernel) (by decide +kernel)
theorem lk_L_54 : Cond.methodLink RL 54 yX12_doubt ∈ wsG := wsG_7 214 (by decide +kernel) (by decide +kernel)
theorem lk_L_59 : Cond.methodLink RL 59 yX12_untell ∈ wsG := wsG_7 218 (by decide +kernel) (by decide +kernel)
theorem lk_L_63 : Cond.methodLink RL 63 yX12_later ∈ wsG := wsG_7 222 (by decide +kernel) (by decide +kernel)
theorem kc_X12_352 : Cond.constant RX12 352 (100000) ∈ wsG := wsG_7 226 (by decide +kernel) (by decide +kernel)
theorem lk_L_67 : Cond.methodLink RL 67 yX12_farOf ∈ wsG := wsG_7 227 (by decide +kernel) (by decide +kernel)
theorem kc_X12_353 : Cond.constant RX12 353 (-100000) ∈ wsG := wsG_7 231 (by decide +kernel) (by decide +kernel)
theorem lk_X12_354 : Cond.methodLink RX12 354 yX12_layOut ∈ wsG := wsG_7 232 (by decide +kernel) (by decide +kernel)
theorem lk_L_71 : Cond.methodLink RL 71 yX12_reading ∈ wsG := wsG_7 236 (by decide +kernel) (by decide +kernel)
theorem lk_X12_357 : Cond.methodLink RX12 357 yX12_isPlace ∈ wsG := wsG_8 0 (by decide +kernel) (by decide +kernel)
theorem lk_L_75 : Cond.methodLink RL 75 yX12_laws ∈ wsG := wsG_8 4 (by decide +kernel) (by decide +kernel)
theorem lk_X12_396 : Cond.methodLink RX12 396 yX12_seekLaws ∈ wsG := wsG_8 8 (by decide +kernel) (by decide +kernel)
theorem lk_X12_364 : Cond.methodLink RX12 364 yX12_stretchFrom ∈ wsG := wsG_8 12 (by decide +kernel) (by decide +kernel)
theorem lk_X12_386 : Cond.methodLink RX12 386 yX12_stretchTo ∈ wsG := wsG_8 16 (by decide +kernel) (by decide +kernel)
theorem lk_X12_389 : Cond.methodLink RX12 389 yX12_showsOn ∈ wsG := wsG_8 20 (by decide +kernel) (by decide +kernel)
theorem lk_X12_373 : Cond.methodLink RX12 373 yX12_showsBy ∈ wsG := wsG_8 24 (by decide +kernel) (by decide +kernel)
theorem lk_X12_361 : Cond.methodLink RX12 361 yX12_down ∈ wsG := wsG_8 28 (by decide +kernel) (by decide +kernel)
theorem lk_X12_367 : Cond.methodLink RX12 367 yX12_ageOf ∈ wsG := wsG_8 31 (by decide +kernel) (by decide +kernel)
theorem lk_X12_370 : Cond.methodLink RX12 370 yX12_round ∈ wsG := wsG_8 35 (by decide +kernel) (by decide +kernel)
theorem lk_X12_392 : Cond.methodLink RX12 392 yX12_fits ∈ wsG := wsG_8 38 (by decide +kernel) (by decide +kernel)
theorem lk_L_79 : Cond.methodLink RL 79 yX12_law ∈ wsG := wsG_8 42 (by decide +kernel) (by decide +kernel)
theorem lk_L_83 : Cond.methodLink RL 83 yX12_misses ∈ wsG := wsG_8 46 (by decide +kernel) (by decide +kernel)
theorem lk_L_87 : Cond.methodLink RL 87 yX12_shows ∈ wsG := wsG_8 50 (by decide +kernel) (by decide +kernel)
theorem lk_X12_400 : Cond.methodLink RX12 400 yX12_showsFirst ∈ wsG := wsG_8 54 (by decide +kernel) (by decide +kernel)
theorem lk_L_91 : Cond.methodLink RL 91 yX12_frost ∈ wsG := wsG_8 58 (by decide +kernel) (by decide +kernel)
theorem lk_L_96 : Cond.methodLink RL 96 yX12_shown ∈ wsG := wsG_8 62 (by decide +kernel) (by decide +kernel)
theorem lk_L_100 : Cond.methodLink RL 100 yX12_wrong ∈ wsG := wsG_8 66 (by decide +kernel) (by decide +kernel)
theorem lk_X12_407 : Cond.methodLink RX12 407 yX12_wrongOn ∈ wsG := wsG_8 70 (by decide +kernel) (by decide +kernel)
theorem lk_X12_403 : Cond.methodLink RX12 403 yX12_isRow ∈ wsG := wsG_8 74 (by decide +kernel) (by decide +kernel)
theorem lk_L_105 : Cond.methodLink RL 105 yX12_habit ∈ wsG := wsG_8 78 (by decide +kernel) (by decide +kernel)
theorem lk_L_109 : Cond.methodLink RL 109 yX12_right ∈ wsG := wsG_8 82 (by decide +kernel) (by decide +kernel)
theorem lk_X12_416 : Cond.methodLink RX12 416 yX12_seekRight ∈ wsG := wsG_8 86 (by decide +kernel) (by decide +kernel)
theorem lk_L_113 : Cond.methodLink RL 113 yX12_sum ∈ wsG := wsG_8 90 (by decide +kernel) (by decide +kernel)
theorem lk_L_117 : Cond.methodLink RL 117 yX12_sure ∈ wsG := wsG_8 94 (by decide +kernel) (by decide +kernel)
theorem lk_L_121 : Cond.methodLink RL 121 yX12_lies ∈ wsG := wsG_8 98 (by decide +kernel) (by decide +kernel)
theorem lk_X12_419 : Cond.methodLink RX12 419 yX12_meets ∈ wsG := wsG_8 102 (by decide +kernel) (by decide +kernel)
theorem lk_L_125 : Cond.methodLink RL 125 yX12_next ∈ wsG := wsG_8 106 (by decide +kernel) (by decide +kernel)
theorem lk_L_31 : Cond.methodLink RL 31 yX12_rules ∈ wsG := wsG_8 110 (by decide +kernel) (by decide +kernel)
theorem lk_X12_467 : Cond.methodLink RX12 467 yX12_readRule ∈ wsG := wsG_8 114 (by decide +kernel) (by decide +kernel)
theorem lk_X12_449 : Cond.methodLink RX12 449 yX12_isOpen ∈ wsG := wsG_8 118 (by decide +kernel) (by decide +kernel)
theorem lk_X12_461 : Cond.methodLink RX12 461 yX12_sign ∈ wsG := wsG_8 122 (by decide +kernel) (by decide +kernel)
theorem lk_X12_452 : Cond.methodLink RX12 452 yX12_settle ∈ wsG := wsG_8 126 (by decide +kernel) (by decide +kernel)
theorem lk_X12_434 : Cond.methodLink RX12 434 yX12_upper ∈ wsG := wsG_8 130 (by decide +kernel) (by decide +kernel)
theorem lk_X12_437 : Cond.methodLink RX12 437 yX12_pop ∈ wsG := wsG_8 134 (by decide +kernel) (by decide +kernel)
theorem lk_X12_431 : Cond.methodLink RX12 431 yX12_note ∈ wsG := wsG_8 138 (by decide +kernel) (by decide +kernel)
theorem lk_X12_455 : Cond.methodLink RX12 455 yX12_rank ∈ wsG := wsG_8 142 (by decide +kernel) (by decide +kernel)
theorem lk_X12_446 : Cond.methodLink RX12 446 yX12_hold ∈ wsG := wsG_8 145 (by decide +kernel) (by decide +kernel)
theorem lk_X12_464 : Cond.methodLink RX12 464 yX12_operand ∈ wsG := wsG_8 149 (by decide +kernel) (by decide +kernel)
theorem lk_X12_443 : Cond.methodLink RX12 443 yX12_named ∈ wsG := wsG_8 153 (by decide +kernel) (by decide +kernel)
theorem lk_L_129 : Cond.methodLink RL 129 yX12_says ∈ wsG := wsG_8 157 (by decide +kernel) (by decide +kernel)
theorem lk_X12_477 : Cond.methodLink RX12 477 yX12_ruleOn ∈ wsG := wsG_8 161 (by decide +kernel) (by decide +kernel)
theorem lk_X12_474 : Cond.methodLink RX12 474 yX12_holds ∈ wsG := wsG_8 165 (by decide +kernel) (by decide +kernel)
theorem lk_X12_470 : Cond.methodLink RX12 470 yX12_worked ∈ wsG := wsG_8 169 (by decide +kernel) (by decide +kernel)
theorem lk_L_133 : Cond.methodLink RL 133 yX12_tried ∈ wsG := wsG_8 172 (by decide +kernel) (by decide +kernel)
theorem lk_X12_498 : Cond.methodLink RX12 498 yX12_tryAll ∈ wsG := wsG_8 176 (by decide +kernel) (by decide +kernel)
theorem lk_X12_495 : Cond.methodLink RX12 495 yX12_isTried ∈ wsG := wsG_8 180 (by decide +kernel) (by decide +kernel)
theorem lk_X12_480 : Cond.methodLink RX12 480 yX12_wetNext ∈ wsG := wsG_8 184 (by decide +kernel) (by decide +kernel)
theorem lk_L_138 : Cond.methodLink RL 138 yX12_luck ∈ wsG := wsG_8 188 (by decide +kernel) (by decide +kernel)
theorem kc_X12_501 : Cond.constantLong RX12 501 (-1) ∈ wsG := wsG_8 192 (by decide +kernel) (by decide +kernel)
theorem lk_X12_503 : Cond.methodLink RX12 503 yX12_layChoices ∈ wsG := wsG_8 193 (by decide +kernel) (by decide +kernel)
theorem lk_X12_506 : Cond.methodLink RX12 506 yX12_common ∈ wsG := wsG_8 197 (by decide +kernel) (by decide +kernel)
theorem lk_L_142 : Cond.methodLink RL 142 yX12_learnt ∈ wsG := wsG_8 200 (by decide +kernel) (by decide +kernel)
theorem lk_X12_510 : Cond.methodLink RX12 510 yX12_countDays ∈ wsG := wsG_8 204 (by decide +kernel) (by decide +kernel)
theorem lk_X12_514 : Cond.methodLink RX12 514 yX12_countRight ∈ wsG := wsG_8 208 (by decide +kernel) (by decide +kernel)
theorem lk_L_146 : Cond.methodLink RL 146 yX12_rule ∈ wsG := wsG_8 212 (by decide +kernel) (by decide +kernel)
theorem lk_L_150 : Cond.methodLink RL 150 yX12_about ∈ wsG := wsG_8 216 (by decide +kernel) (by decide +kernel)
/-- the class's world, in the order in which its constructor makes it -/
def KC : List Kd := [(0, 11, [(2, 1), (0, 0), (0, 0), (0, 0), (2, 2), (2, 4), (2, 14), (2, 24), (2, 25), (2, 30), (2, 35), (2, 36), (2, 43), (2, 47), (2, 73), (2, 76), (2, 80)]),
  (3, 800, []),
  (0, 9, [(2, 1), (2, 3), (0, 0), (3, 0), (0, 0), (0, 0), (0, 0), (0, 0), (1, 0), (0, 0), (0, 0)]),
  (2, 26, []),
  (0, 2, [(0, 0), (0, 0), (2, 5), (2, 6), (2, 7), (2, 8), (2, 9), (2, 10), (2, 11), (2, 12), (2, 13)]),
  (2, 5, []),
  (1, 5, []),
  (1, 5, []),
  (1, 20, []),
  (1, 20, []),
  (1, 16, []),
  (1, 16, []),
  (1, 16, []),
  (1, 16, []),
  (0, 2, [(0, 0), (0, 0), (2, 15), (2, 16), (2, 17), (2, 18), (2, 19), (2, 20), (2, 21), (2, 22), (2, 23)]),
  (2, 5, []),
  (1, 5, []),
  (1, 5, []),
  (1, 20, []),
  (1, 20, []),
  (1, 16, []),
  (1, 16, []),
  (1, 16, []),
  (1, 16, []),
  (0, 3, [(2, 2), (2, 14)]),
  (0, 6, [(0, 0), (2, 26), (2, 27), (0, 0), (2, 28), (2, 29)]),
  (1, 6, []),
  (1, 6, []),
  (1, 500, []),
  (1, 60, []),
  (0, 6, [(0, 0), (2, 31), (2, 32), (0, 0), (2, 33), (2, 34)]),
  (1, 6, []),
  (1, 6, []),
  (1, 500, []),
  (1, 60, []),
  (0, 7, [(2, 2), (2, 4), (2, 30), (0, 0)]),
  (0, 1, [(0, 0), (0, 0), (0, 0), (1, 0), (0, 0), (2, 37), (2, 38), (2, 39), (2, 40), (2, 41), (2, 42)]),
  (1, 300, []),
  (1, 300, []),
  (1, 300, []),
  (1, 300, []),
  (1, 300, []),
  (1, 300, []),
  (0, 4, [(2, 36), (2, 4), (2, 44), (2, 45), (2, 46), (0, 0), (0, 0), (0, 0)]),
  (1, 240, []),
  (1, 300, []),
  (1, 300, []),
  (5, 5, [(2, 48), (2, 53), (2, 58), (2, 63), (2, 68)]),
  (0, 5, [(2, 36), (2, 43), (2, 4), (0, 0), (0, 0), (0, 0), (0, 0), (2, 49), (2, 50), (0, 0), (2, 51), (2, 52), (0, 0), (0, 0), (0, 0)]),
  (1, 60, []),
  (1, 60, []),
  (1, 660, []),
  (1, 660, []),
  (0, 5, [(2, 36), (2, 43), (2, 4), (0, 0), (0, 0), (0, 0), (0, 0), (2, 54), (2, 55), (0, 0), (2, 56), (2, 57), (0, 0), (0, 0), (0, 0)]),
  (1, 60, []),
  (1, 60, []),
  (1, 660, []),
  (1, 660, []),
  (0, 5, [(2, 36), (2, 43), (2, 4), (0, 0), (0, 0), (0, 0), (0, 0), (2, 59), (2, 60), (0, 0), (2, 61), (2, 62), (0, 0), (0, 0), (0, 0)]),
  (1, 60, []),
  (1, 60, []),
  (1, 660, []),
  (1, 660, []),
  (0, 5, [(2, 36), (2, 43), (2, 4), (0, 0), (0, 0), (0, 0), (0, 0), (2, 64), (2, 65), (0, 0), (2, 66), (2, 67), (0, 0), (0, 0), (0, 0)]),
  (1, 60, []),
  (1, 60, []),
  (1, 660, []),
  (1, 660, []),
  (0, 5, [(2, 36), (2, 43), (2, 4), (0, 0), (0, 0), (0, 0), (0, 0), (2, 69), (2, 70), (0, 0), (2, 71), (2, 72), (0, 0), (0, 0), (0, 0)]),
  (1, 60, []),
  (1, 60, []),
  (1, 660, []),
  (1, 660, []),
  (0, 8, [(2, 47), (2, 43), (2, 4), (2, 74), (2, 75), (0, 0), (0, 0)]),
  (1, 60, []),
  (1, 60, []),
  (0, 0, [(2, 47), (2, 43), (2, 4), (2, 77), (2, 78), (2, 79)]),
  (1, 300, []),
  (1, 10, []),
  (1, 10, []),
  (0, 10, [(2, 25), (2, 43), (2, 4), (0, 0), (0, 0), (0, 0), (0, 0), (2, 81), (2, 82), (0, 0), (2, 83), (2, 84)]),
  (1, 6, []),
  (1, 6, []),
  (1, 60, []),
  (1, 60, [])]
/-- the reference's world -/
def KM : List Kd := [(0, 12, [(2, 1), (0, 0), (0, 0), (0, 0), (0, 0), (0, 0), (0, 0), (0, 0), (0, 0), (1, 0), (0, 1), (2, 2), (2, 3), (2, 4), (2, 5), (2, 6), (2, 7), (2, 8), (2, 9), (2, 10), (2, 11), (2, 12), (2, 13), (2, 14), (2, 15), (2, 16), (2, 17), (2, 18), (2, 19), (0, 0), (0, 0), (0, 0), (0, 0), (2, 20), (2, 21), (2, 22), (2, 23), (2, 24), (2, 25), (2, 26), (2, 27), (2, 28), (0, 0), (0, 0), (2, 29), (2, 30), (2, 31), (2, 32), (2, 33), (2, 34), (2, 35), (0, 0), (0, 0), (0, 0), (2, 36), (2, 37), (0, 0), (0, 0), (2, 38), (2, 39), (2, 40), (2, 41), (2, 42), (2, 43), (2, 44), (2, 45), (2, 46), (2, 47), (2, 48), (2, 49), (0, 0), (0, 0), (0, 0), (0, 0), (0, 0), (0, 0), (0, 0), (0, 0), (0, 0), (0, 0), (2, 50)]),
  (1, 800, []),
  (2, 5, []),
  (2, 5, []),
  (1, 5, []),
  (1, 40, []),
  (1, 5, []),
  (1, 5, []),
  (1, 40, []),
  (1, 5, []),
  (4, 300, []),
  (4, 300, []),
  (4, 300, []),
  (4, 60, []),
  (4, 60, []),
  (4, 300, []),
  (4, 300, []),
  (4, 300, []),
  (4, 60, []),
  (4, 60, []),
  (1, 300, []),
  (1, 300, []),
  (1, 300, []),
  (1, 300, []),
  (1, 300, []),
  (1, 300, []),
  (4, 300, []),
  (4, 60, []),
  (4, 10, []),
  (1, 240, []),
  (1, 300, []),
  (1, 300, []),
  (1, 700, []),
  (1, 700, []),
  (1, 700, []),
  (1, 700, []),
  (1, 10, []),
  (1, 10, []),
  (1, 60, []),
  (1, 60, []),
  (1, 600, []),
  (1, 600, []),
  (1, 7, []),
  (1, 600, []),
  (1, 600, []),
  (1, 7, []),
  (1, 600, []),
  (1, 70, []),
  (4, 6, []),
  (4, 6, []),
  (2, 3600, [])]

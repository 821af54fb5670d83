/-! the classes: their words, the types of their fields -/
set_option maxRecDepth 100000 in
theorem wl_0 : (u_ws RX0 TX0 7).all (fun w => decide (w ∈ lw_tbl) && goodWord w) = true := by decide +kernel
set_option maxRecDepth 100000 in
theorem wl_1 : (u_ws RX1 TX1 4).all (fun w => decide (w ∈ lw_tbl) && goodWord w) = true := by decide +kernel
set_option maxRecDepth 100000 in
theorem wl_2 : (u_ws RX2 TX2 3).all (fun w => decide (w ∈ lw_tbl) && goodWord w) = true := by decide +kernel
set_option maxRecDepth 100000 in
theorem wl_3 : (u_ws RX3 TX3 4).all (fun w => decide (w ∈ lw_tbl) && goodWord w) = true := by decide +kernel
set_option maxRecDepth 100000 in
theorem wl_4 : (u_ws RX4 TX4 2).all (fun w => decide (w ∈ lw_tbl) && goodWord w) = true := by decide +kernel
set_option maxRecDepth 100000 in
theorem wl_5 : (u_ws RX5 TX5 14).all (fun w => decide (w ∈ lw_tbl) && goodWord w) = true := by decide +kernel
set_option maxRecDepth 100000 in
theorem wl_6 : (u_ws RX6 TX6 14).all (fun w => decide (w ∈ lw_tbl) && goodWord w) = true := by decide +kernel
set_option maxRecDepth 100000 in
theorem wl_7 : (u_ws RX7 TX7 47).all (fun w => decide (w ∈ lw_tbl) && goodWord w) = true := by decide +kernel
theorem wl_in {ws : List Jvm.Cond} (h : ws.all (fun w => decide (w ∈ lw_tbl) && goodWord w) = true) : ∀ w ∈ ws, w ∈ W0 := fun w hw => by
  have h1 := List.all_eq_true.mp h w hw
  obtain ⟨a, c⟩ := b_and h1
  exact W0_mem (of_decide_eq_true a) c
theorem cls_in : ∀ (ci : Nat) (q : vw_C), vwCl[ci]? = some q → ∀ w ∈ u_ws q.1 q.2.1 q.2.2, w ∈ W0
  | 0, _, rfl => wl_in wl_0
  | 1, _, rfl => wl_in wl_1
  | 2, _, rfl => wl_in wl_2
  | 3, _, rfl => wl_in wl_3
  | 4, _, rfl => wl_in wl_4
  | 5, _, rfl => wl_in wl_5
  | 6, _, rfl => wl_in wl_6
  | 7, _, rfl => wl_in wl_7
  | _ + 8, _, h => by simp [vwCl] at h
def cls_t (ci : Nat) : Nat → FieldType := match ci with
  | 0 => tyX0
  | 1 => tyX1
  | 2 => tyX2
  | 3 => tyX3
  | 4 => tyX4
  | 5 => tyX5
  | 6 => tyX6
  | _ => tyX7
theorem cls_ty : ∀ (ci : Nat) (q : vw_C), vwCl[ci]? = some q → ∀ k, k < q.2.2 → parseFieldDescriptor (q.2.1 k).2.2.1 = some (cls_t ci k)
  | 0, _, rfl => tyX0_ok
  | 1, _, rfl => tyX1_ok
  | 2, _, rfl => tyX2_ok
  | 3, _, rfl => tyX3_ok
  | 4, _, rfl => tyX4_ok
  | 5, _, rfl => tyX5_ok
  | 6, _, rfl => tyX6_ok
  | 7, _, rfl => tyX7_ok
  | _ + 8, _, h => by simp [vwCl] at h
theorem cls_nm : ∀ (ci : Nat) (q : vw_C), vwCl[ci]? = some q → ∀ a, a < q.2.2 → ∀ b, b < q.2.2 → a ≠ b → (q.2.1 a).2.1 ≠ (q.2.1 b).2.1
  | 0, _, rfl => nmX0
  | 1, _, rfl => nmX1
  | 2, _, rfl => nmX2
  | 3, _, rfl => nmX3
  | 4, _, rfl => nmX4
  | 5, _, rfl => nmX5
  | 6, _, rfl => nmX6
  | 7, _, rfl => nmX7
  | _ + 8, _, h => by simp [vwCl] at h
theorem df_0 : ∀ j, j < 7 → defaultValue (tyX0 j) = vp_V (m_dfl.getD 0 []) j := by decide +kernel
theorem df_1 : ∀ j, j < 4 → defaultValue (tyX1 j) = vp_V (m_dfl.getD 1 []) j := by decide +kernel
theorem df_2 : ∀ j, j < 3 → defaultValue (tyX2 j) = vp_V (m_dfl.getD 2 []) j := by decide +kernel
theorem df_3 : ∀ j, j < 4 → defaultValue (tyX3 j) = vp_V (m_dfl.getD 3 []) j := by decide +kernel
theorem df_4 : ∀ j, j < 2 → defaultValue (tyX4 j) = vp_V (m_dfl.getD 4 []) j := by decide +kernel
theorem df_5 : ∀ j, j < 14 → defaultValue (tyX5 j) = vp_V (m_dfl.getD 5 []) j := by decide +kernel
theorem df_6 : ∀ j, j < 14 → defaultValue (tyX6 j) = vp_V (m_dfl.getD 6 []) j := by decide +kernel
theorem df_7 : ∀ j, j < 47 → defaultValue (tyX7 j) = vp_V (m_dfl.getD 7 []) j := by decide +kernel
theorem cls_df : ∀ (ci : Nat) (q : vw_C), vwCl[ci]? = some q → (∀ j, j < q.2.2 → defaultValue (cls_t ci j) = vp_V (m_dfl.getD ci []) j) ∧ (m_dfl.getD ci []).length = q.2.2
  | 0, _, rfl => ⟨df_0, rfl⟩
  | 1, _, rfl => ⟨df_1, rfl⟩
  | 2, _, rfl => ⟨df_2, rfl⟩
  | 3, _, rfl => ⟨df_3, rfl⟩
  | 4, _, rfl => ⟨df_4, rfl⟩
  | 5, _, rfl => ⟨df_5, rfl⟩
  | 6, _, rfl => ⟨df_6, rfl⟩
  | 7, _, rfl => ⟨df_7, rfl⟩
  | _ + 8, _, h => by simp [vwCl] at h
theorem m_dfl_zt (b base ci : Nat) : (m_dfl.getD ci []).map (zt b base) = m_dfl.getD ci [] := by
  match ci with
  | 0 => rfl
  | 1 => rfl
  | 2 => rfl
  | 3 => rfl
  | 4 => rfl
  | 5 => rfl
  | 6 => rfl
  | 7 => rfl
  | _ + 8 => rfl

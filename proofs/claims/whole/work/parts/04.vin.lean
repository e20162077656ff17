set_option maxRecDepth 20000 in
theorem vIn {c : Nat} (h : c < 13) : ∀ w ∈ u_ws (vR c) (vT c) (vN c), w ∈ vTs := by
  intro w hw
  refine List.mem_filter.mpr ?_
  match c, h with
  | 0, _ => exact ⟨(goodIn_p (u_ws RX0 TX0 8) [] rfl (by decide +kernel) w hw).1, List.all_eq_true.mp (show (u_ws RX0 TX0 8).all goodWord = true by decide +kernel) w hw⟩
  | 1, _ => exact ⟨(goodIn_p (u_ws RX1 TX1 14) [] rfl (by decide +kernel) w hw).1, List.all_eq_true.mp (show (u_ws RX1 TX1 14).all goodWord = true by decide +kernel) w hw⟩
  | 2, _ => exact ⟨(goodIn_p (u_ws RX2 TX2 4) [] rfl (by decide +kernel) w hw).1, List.all_eq_true.mp (show (u_ws RX2 TX2 4).all goodWord = true by decide +kernel) w hw⟩
  | 3, _ => exact ⟨(goodIn_p (u_ws RX3 TX3 4) [] rfl (by decide +kernel) w hw).1, List.all_eq_true.mp (show (u_ws RX3 TX3 4).all goodWord = true by decide +kernel) w hw⟩
  | 4, _ => exact ⟨(goodIn_p (u_ws RX4 TX4 13) [] rfl (by decide +kernel) w hw).1, List.all_eq_true.mp (show (u_ws RX4 TX4 13).all goodWord = true by decide +kernel) w hw⟩
  | 5, _ => exact ⟨(goodIn_p (u_ws RX5 TX5 12) [] rfl (by decide +kernel) w hw).1, List.all_eq_true.mp (show (u_ws RX5 TX5 12).all goodWord = true by decide +kernel) w hw⟩
  | 6, _ => exact ⟨(goodIn_p (u_ws RX6 TX6 7) [] rfl (by decide +kernel) w hw).1, List.all_eq_true.mp (show (u_ws RX6 TX6 7).all goodWord = true by decide +kernel) w hw⟩
  | 7, _ => exact ⟨(goodIn_p (u_ws RX7 TX7 8) [] rfl (by decide +kernel) w hw).1, List.all_eq_true.mp (show (u_ws RX7 TX7 8).all goodWord = true by decide +kernel) w hw⟩
  | 8, _ => exact ⟨(goodIn_p (u_ws RX8 TX8 10) [] rfl (by decide +kernel) w hw).1, List.all_eq_true.mp (show (u_ws RX8 TX8 10).all goodWord = true by decide +kernel) w hw⟩
  | 9, _ => exact ⟨(goodIn_p (u_ws RX9 TX9 7) [] rfl (by decide +kernel) w hw).1, List.all_eq_true.mp (show (u_ws RX9 TX9 7).all goodWord = true by decide +kernel) w hw⟩
  | 10, _ => exact ⟨(goodIn_p (u_ws RX10 TX10 7) [] rfl (by decide +kernel) w hw).1, List.all_eq_true.mp (show (u_ws RX10 TX10 7).all goodWord = true by decide +kernel) w hw⟩
  | 11, _ => exact ⟨(goodIn_p (u_ws RX11 TX11 18) [] rfl (by decide +kernel) w hw).1, List.all_eq_true.mp (show (u_ws RX11 TX11 18).all goodWord = true by decide +kernel) w hw⟩
  | 12, _ => exact ⟨(goodIn_p (u_ws RX12 TX12 57) [] rfl (by decide +kernel) w hw).1, List.all_eq_true.mp (show (u_ws RX12 TX12 57).all goodWord = true by decide +kernel) w hw⟩

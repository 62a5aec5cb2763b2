theorem kc_X0 : ∀ w ∈ u_ws RX0 TX0 2, w ∈ xG := by
  intro w hw
  obtain ⟨j, hj, rfl⟩ := List.mem_map.mp hw
  have hj := List.mem_range.mp hj
  match j, hj with
  | 0, _ => exact (xG_of (i := 148) (by decide +kernel) rfl)
  | 1, _ => exact (xG_of (i := 150) (by decide +kernel) rfl)
  | j + 2, h => exact absurd h (by omega)
theorem ki_X0 : Cond.initialized RX0 ∈ xG := (xG_of (i := 50) (by decide +kernel) rfl)
theorem kn_X0 : Cond.instantiable RX0 2 ∈ xG := (xG_of (i := 140) (by decide +kernel) rfl)
theorem kc_X1 : ∀ w ∈ u_ws RX1 TX1 3, w ∈ xG := by
  intro w hw
  obtain ⟨j, hj, rfl⟩ := List.mem_map.mp hw
  have hj := List.mem_range.mp hj
  match j, hj with
  | 0, _ => exact (xG_of (i := 132) (by decide +kernel) rfl)
  | 1, _ => exact (xG_of (i := 134) (by decide +kernel) rfl)
  | 2, _ => exact (xG_of (i := 136) (by decide +kernel) rfl)
  | j + 3, h => exact absurd h (by omega)
theorem ki_X1 : Cond.initialized RX1 ∈ xG := (xG_of (i := 49) (by decide +kernel) rfl)
theorem kn_X1 : Cond.instantiable RX1 3 ∈ xG := (xG_of (i := 120) (by decide +kernel) rfl)
theorem kc_X2 : ∀ w ∈ u_ws RX2 TX2 4, w ∈ xG := by
  intro w hw
  obtain ⟨j, hj, rfl⟩ := List.mem_map.mp hw
  have hj := List.mem_range.mp hj
  match j, hj with
  | 0, _ => exact (xG_of (i := 83) (by decide +kernel) rfl)
  | 1, _ => exact (xG_of (i := 85) (by decide +kernel) rfl)
  | 2, _ => exact (xG_of (i := 87) (by decide +kernel) rfl)
  | 3, _ => exact (xG_of (i := 89) (by decide +kernel) rfl)
  | j + 4, h => exact absurd h (by omega)
theorem ki_X2 : Cond.initialized RX2 ∈ xG := (xG_of (i := 48) (by decide +kernel) rfl)
theorem kn_X2 : Cond.instantiable RX2 4 ∈ xG := (xG_of (i := 70) (by decide +kernel) rfl)
theorem kc_X3 : ∀ w ∈ u_ws RX3 TX3 8, w ∈ xG := by
  intro w hw
  obtain ⟨j, hj, rfl⟩ := List.mem_map.mp hw
  have hj := List.mem_range.mp hj
  match j, hj with
  | 0, _ => exact (xG_of (i := 102) (by decide +kernel) rfl)
  | 1, _ => exact (xG_of (i := 104) (by decide +kernel) rfl)
  | 2, _ => exact (xG_of (i := 106) (by decide +kernel) rfl)
  | 3, _ => exact (xG_of (i := 108) (by decide +kernel) rfl)
  | 4, _ => exact (xG_of (i := 110) (by decide +kernel) rfl)
  | 5, _ => exact (xG_of (i := 112) (by decide +kernel) rfl)
  | 6, _ => exact (xG_of (i := 114) (by decide +kernel) rfl)
  | 7, _ => exact (xG_of (i := 116) (by decide +kernel) rfl)
  | j + 8, h => exact absurd h (by omega)
theorem ki_X3 : Cond.initialized RX3 ∈ xG := (xG_of (i := 47) (by decide +kernel) rfl)
theorem kn_X3 : Cond.instantiable RX3 8 ∈ xG := (xG_of (i := 63) (by decide +kernel) rfl)
theorem kc_X4 : ∀ w ∈ u_ws RX4 TX4 4, w ∈ xG := by
  intro w hw
  obtain ⟨j, hj, rfl⟩ := List.mem_map.mp hw
  have hj := List.mem_range.mp hj
  match j, hj with
  | 0, _ => exact (xG_of (i := 158) (by decide +kernel) rfl)
  | 1, _ => exact (xG_of (i := 160) (by decide +kernel) rfl)
  | 2, _ => exact (xG_of (i := 162) (by decide +kernel) rfl)
  | 3, _ => exact (xG_of (i := 164) (by decide +kernel) rfl)
  | j + 4, h => exact absurd h (by omega)
theorem ki_X4 : Cond.initialized RX4 ∈ xG := (xG_of (i := 46) (by decide +kernel) rfl)
theorem kn_X4 : Cond.instantiable RX4 4 ∈ xG := (xG_of (i := 55) (by decide +kernel) rfl)
theorem kc_X5 : ∀ w ∈ u_ws RX5 TX5 13, w ∈ xG := by
  intro w hw
  obtain ⟨j, hj, rfl⟩ := List.mem_map.mp hw
  have hj := List.mem_range.mp hj
  match j, hj with
  | 0, _ => exact (xG_of (i := 564) (by decide +kernel) rfl)
  | 1, _ => exact (xG_of (i := 566) (by decide +kernel) rfl)
  | 2, _ => exact (xG_of (i := 568) (by decide +kernel) rfl)
  | 3, _ => exact (xG_of (i := 570) (by decide +kernel) rfl)
  | 4, _ => exact (xG_of (i := 572) (by decide +kernel) rfl)
  | 5, _ => exact (xG_of (i := 574) (by decide +kernel) rfl)
  | 6, _ => exact (xG_of (i := 576) (by decide +kernel) rfl)
  | 7, _ => exact (xG_of (i := 578) (by decide +kernel) rfl)
  | 8, _ => exact (xG_of (i := 580) (by decide +kernel) rfl)
  | 9, _ => exact (xG_of (i := 582) (by decide +kernel) rfl)
  | 10, _ => exact (xG_of (i := 584) (by decide +kernel) rfl)
  | 11, _ => exact (xG_of (i := 586) (by decide +kernel) rfl)
  | 12, _ => exact (xG_of (i := 588) (by decide +kernel) rfl)
  | j + 13, h => exact absurd h (by omega)
theorem ki_X5 : Cond.initialized RX5 ∈ xG := (xG_of (i := 51) (by decide +kernel) rfl)
theorem kn_X5 : Cond.instantiable RX5 13 ∈ xG := (xG_of (i := 546) (by decide +kernel) rfl)
theorem kf_X2_9 : xFd RX2 9 (RX2, TX2, 4) 2 0 := ⟨rfl, by decide, Or.inl (xG_of (i := 75) (by decide +kernel) rfl), kc_X2, ⟨tyX2, tyX2_ok⟩, nmX2⟩
theorem kfw_X2_9 : Cond.fieldLink RX2 9 (TX2 0).1 (TX2 0).2.1 (TX2 0).2.2.1 ∈ xG := (xG_of (i := 75) (by decide +kernel) rfl)
theorem kf_X2_21 : xFd RX2 21 (RX2, TX2, 4) 2 1 := ⟨rfl, by decide, Or.inl (xG_of (i := 76) (by decide +kernel) rfl), kc_X2, ⟨tyX2, tyX2_ok⟩, nmX2⟩
theorem kfw_X2_21 : Cond.fieldLink RX2 21 (TX2 1).1 (TX2 1).2.1 (TX2 1).2.2.1 ∈ xG := (xG_of (i := 76) (by decide +kernel) rfl)
theorem kf_X3_55 : xFd RX3 55 (RX2, TX2, 4) 2 1 := ⟨rfl, by decide, Or.inr ⟨"GesturePidgin", (xGN_of (i := 77) (by decide +kernel) rfl)⟩, kc_X2, ⟨tyX2, tyX2_ok⟩, nmX2⟩
theorem kf_X2_25 : xFd RX2 25 (RX2, TX2, 4) 2 2 := ⟨rfl, by decide, Or.inl (xG_of (i := 78) (by decide +kernel) rfl), kc_X2, ⟨tyX2, tyX2_ok⟩, nmX2⟩
theorem kfw_X2_25 : Cond.fieldLink RX2 25 (TX2 2).1 (TX2 2).2.1 (TX2 2).2.2.1 ∈ xG := (xG_of (i := 78) (by decide +kernel) rfl)
theorem kf_X4_95 : xFd RX4 95 (RX2, TX2, 4) 2 2 := ⟨rfl, by decide, Or.inr ⟨"GesturePidgin", (xGN_of (i := 79) (by decide +kernel) rfl)⟩, kc_X2, ⟨tyX2, tyX2_ok⟩, nmX2⟩
theorem kf_X3_104 : xFd RX3 104 (RX2, TX2, 4) 2 2 := ⟨rfl, by decide, Or.inr ⟨"GesturePidgin", (xGN_of (i := 80) (by decide +kernel) rfl)⟩, kc_X2, ⟨tyX2, tyX2_ok⟩, nmX2⟩
theorem kf_X2_29 : xFd RX2 29 (RX2, TX2, 4) 2 3 := ⟨rfl, by decide, Or.inl (xG_of (i := 81) (by decide +kernel) rfl), kc_X2, ⟨tyX2, tyX2_ok⟩, nmX2⟩
theorem kfw_X2_29 : Cond.fieldLink RX2 29 (TX2 3).1 (TX2 3).2.1 (TX2 3).2.2.1 ∈ xG := (xG_of (i := 81) (by decide +kernel) rfl)
theorem kf_X3_73 : xFd RX3 73 (RX2, TX2, 4) 2 3 := ⟨rfl, by decide, Or.inr ⟨"GesturePidgin", (xGN_of (i := 82) (by decide +kernel) rfl)⟩, kc_X2, ⟨tyX2, tyX2_ok⟩, nmX2⟩
theorem kf_X3_11 : xFd RX3 11 (RX3, TX3, 8) 3 0 := ⟨rfl, by decide, Or.inl (xG_of (i := 93) (by decide +kernel) rfl), kc_X3, ⟨tyX3, tyX3_ok⟩, nmX3⟩
theorem kfw_X3_11 : Cond.fieldLink RX3 11 (TX3 0).1 (TX3 0).2.1 (TX3 0).2.2.1 ∈ xG := (xG_of (i := 93) (by decide +kernel) rfl)
theorem kf_X3_18 : xFd RX3 18 (RX3, TX3, 8) 3 1 := ⟨rfl, by decide, Or.inl (xG_of (i := 94) (by decide +kernel) rfl), kc_X3, ⟨tyX3, tyX3_ok⟩, nmX3⟩
theorem kfw_X3_18 : Cond.fieldLink RX3 18 (TX3 1).1 (TX3 1).2.1 (TX3 1).2.2.1 ∈ xG := (xG_of (i := 94) (by decide +kernel) rfl)
theorem kf_X3_22 : xFd RX3 22 (RX3, TX3, 8) 3 2 := ⟨rfl, by decide, Or.inl (xG_of (i := 95) (by decide +kernel) rfl), kc_X3, ⟨tyX3, tyX3_ok⟩, nmX3⟩
theorem kfw_X3_22 : Cond.fieldLink RX3 22 (TX3 2).1 (TX3 2).2.1 (TX3 2).2.2.1 ∈ xG := (xG_of (i := 95) (by decide +kernel) rfl)
theorem kf_X3_25 : xFd RX3 25 (RX3, TX3, 8) 3 3 := ⟨rfl, by decide, Or.inl (xG_of (i := 96) (by decide +kernel) rfl), kc_X3, ⟨tyX3, tyX3_ok⟩, nmX3⟩
theorem kfw_X3_25 : Cond.fieldLink RX3 25 (TX3 3).1 (TX3 3).2.1 (TX3 3).2.2.1 ∈ xG := (xG_of (i := 96) (by decide +kernel) rfl)
theorem kf_X4_76 : xFd RX4 76 (RX3, TX3, 8) 3 3 := ⟨rfl, by decide, Or.inr ⟨"GesturePidgin", (xGN_of (i := 97) (by decide +kernel) rfl)⟩, kc_X3, ⟨tyX3, tyX3_ok⟩, nmX3⟩
theorem kf_X3_39 : xFd RX3 39 (RX3, TX3, 8) 3 4 := ⟨rfl, by decide, Or.inl (xG_of (i := 98) (by decide +kernel) rfl), kc_X3, ⟨tyX3, tyX3_ok⟩, nmX3⟩
theorem kfw_X3_39 : Cond.fieldLink RX3 39 (TX3 4).1 (TX3 4).2.1 (TX3 4).2.2.1 ∈ xG := (xG_of (i := 98) (by decide +kernel) rfl)
theorem kf_X3_42 : xFd RX3 42 (RX3, TX3, 8) 3 5 := ⟨rfl, by decide, Or.inl (xG_of (i := 99) (by decide +kernel) rfl), kc_X3, ⟨tyX3, tyX3_ok⟩, nmX3⟩
theorem kfw_X3_42 : Cond.fieldLink RX3 42 (TX3 5).1 (TX3 5).2.1 (TX3 5).2.2.1 ∈ xG := (xG_of (i := 99) (by decide +kernel) rfl)
theorem kf_X3_45 : xFd RX3 45 (RX3, TX3, 8) 3 6 := ⟨rfl, by decide, Or.inl (xG_of (i := 100) (by decide +kernel) rfl), kc_X3, ⟨tyX3, tyX3_ok⟩, nmX3⟩
theorem kfw_X3_45 : Cond.fieldLink RX3 45 (TX3 6).1 (TX3 6).2.1 (TX3 6).2.2.1 ∈ xG := (xG_of (i := 100) (by decide +kernel) rfl)
theorem kf_X3_48 : xFd RX3 48 (RX3, TX3, 8) 3 7 := ⟨rfl, by decide, Or.inl (xG_of (i := 101) (by decide +kernel) rfl), kc_X3, ⟨tyX3, tyX3_ok⟩, nmX3⟩
theorem kfw_X3_48 : Cond.fieldLink RX3 48 (TX3 7).1 (TX3 7).2.1 (TX3 7).2.2.1 ∈ xG := (xG_of (i := 101) (by decide +kernel) rfl)
theorem kf_X1_11 : xFd RX1 11 (RX1, TX1, 3) 1 0 := ⟨rfl, by decide, Or.inl (xG_of (i := 128) (by decide +kernel) rfl), kc_X1, ⟨tyX1, tyX1_ok⟩, nmX1⟩
theorem kfw_X1_11 : Cond.fieldLink RX1 11 (TX1 0).1 (TX1 0).2.1 (TX1 0).2.2.1 ∈ xG := (xG_of (i := 128) (by decide +kernel) rfl)
theorem kf_X1_18 : xFd RX1 18 (RX1, TX1, 3) 1 1 := ⟨rfl, by decide, Or.inl (xG_of (i := 129) (by decide +kernel) rfl), kc_X1, ⟨tyX1, tyX1_ok⟩, nmX1⟩
theorem kfw_X1_18 : Cond.fieldLink RX1 18 (TX1 1).1 (TX1 1).2.1 (TX1 1).2.2.1 ∈ xG := (xG_of (i := 129) (by decide +kernel) rfl)
theorem kf_X1_30 : xFd RX1 30 (RX1, TX1, 3) 1 2 := ⟨rfl, by decide, Or.inl (xG_of (i := 130) (by decide +kernel) rfl), kc_X1, ⟨tyX1, tyX1_ok⟩, nmX1⟩
theorem kfw_X1_30 : Cond.fieldLink RX1 30 (TX1 2).1 (TX1 2).2.1 (TX1 2).2.2.1 ∈ xG := (xG_of (i := 130) (by decide +kernel) rfl)
theorem kf_X4_164 : xFd RX4 164 (RX1, TX1, 3) 1 2 := ⟨rfl, by decide, Or.inr ⟨"GesturePidgin", (xGN_of (i := 131) (by decide +kernel) rfl)⟩, kc_X1, ⟨tyX1, tyX1_ok⟩, nmX1⟩
theorem kf_X0_9 : xFd RX0 9 (RX0, TX0, 2) 0 0 := ⟨rfl, by decide, Or.inl (xG_of (i := 145) (by decide +kernel) rfl), kc_X0, ⟨tyX0, tyX0_ok⟩, nmX0⟩
theorem kfw_X0_9 : Cond.fieldLink RX0 9 (TX0 0).1 (TX0 0).2.1 (TX0 0).2.2.1 ∈ xG := (xG_of (i := 145) (by decide +kernel) rfl)
theorem kf_X0_15 : xFd RX0 15 (RX0, TX0, 2) 0 1 := ⟨rfl, by decide, Or.inl (xG_of (i := 146) (by decide +kernel) rfl), kc_X0, ⟨tyX0, tyX0_ok⟩, nmX0⟩
theorem kfw_X0_15 : Cond.fieldLink RX0 15 (TX0 1).1 (TX0 1).2.1 (TX0 1).2.2.1 ∈ xG := (xG_of (i := 146) (by decide +kernel) rfl)
theorem kf_X4_150 : xFd RX4 150 (RX0, TX0, 2) 0 1 := ⟨rfl, by decide, Or.inr ⟨"GesturePidgin", (xGN_of (i := 147) (by decide +kernel) rfl)⟩, kc_X0, ⟨tyX0, tyX0_ok⟩, nmX0⟩
theorem kf_X4_10 : xFd RX4 10 (RX4, TX4, 4) 4 0 := ⟨rfl, by decide, Or.inl (xG_of (i := 154) (by decide +kernel) rfl), kc_X4, ⟨tyX4, tyX4_ok⟩, nmX4⟩
theorem kfw_X4_10 : Cond.fieldLink RX4 10 (TX4 0).1 (TX4 0).2.1 (TX4 0).2.2.1 ∈ xG := (xG_of (i := 154) (by decide +kernel) rfl)
theorem kf_X4_16 : xFd RX4 16 (RX4, TX4, 4) 4 1 := ⟨rfl, by decide, Or.inl (xG_of (i := 155) (by decide +kernel) rfl), kc_X4, ⟨tyX4, tyX4_ok⟩, nmX4⟩
theorem kfw_X4_16 : Cond.fieldLink RX4 16 (TX4 1).1 (TX4 1).2.1 (TX4 1).2.2.1 ∈ xG := (xG_of (i := 155) (by decide +kernel) rfl)
theorem kf_X4_22 : xFd RX4 22 (RX4, TX4, 4) 4 2 := ⟨rfl, by decide, Or.inl (xG_of (i := 156) (by decide +kernel) rfl), kc_X4, ⟨tyX4, tyX4_ok⟩, nmX4⟩
theorem kfw_X4_22 : Cond.fieldLink RX4 22 (TX4 2).1 (TX4 2).2.1 (TX4 2).2.2.1 ∈ xG := (xG_of (i := 156) (by decide +kernel) rfl)
theorem kf_X4_29 : xFd RX4 29 (RX4, TX4, 4) 4 3 := ⟨rfl, by decide, Or.inl (xG_of (i := 157) (by decide +kernel) rfl), kc_X4, ⟨tyX4, tyX4_ok⟩, nmX4⟩
theorem kfw_X4_29 : Cond.fieldLink RX4 29 (TX4 3).1 (TX4 3).2.1 (TX4 3).2.2.1 ∈ xG := (xG_of (i := 157) (by decide +kernel) rfl)
theorem kf_X5_7 : xFd RX5 7 (RX5, TX5, 13) 5 0 := ⟨rfl, by decide, Or.inl (xG_of (i := 551) (by decide +kernel) rfl), kc_X5, ⟨tyX5, tyX5_ok⟩, nmX5⟩
theorem kfw_X5_7 : Cond.fieldLink RX5 7 (TX5 0).1 (TX5 0).2.1 (TX5 0).2.2.1 ∈ xG := (xG_of (i := 551) (by decide +kernel) rfl)
theorem kf_X5_13 : xFd RX5 13 (RX5, TX5, 13) 5 1 := ⟨rfl, by decide, Or.inl (xG_of (i := 552) (by decide +kernel) rfl), kc_X5, ⟨tyX5, tyX5_ok⟩, nmX5⟩
theorem kfw_X5_13 : Cond.fieldLink RX5 13 (TX5 1).1 (TX5 1).2.1 (TX5 1).2.2.1 ∈ xG := (xG_of (i := 552) (by decide +kernel) rfl)
theorem kf_X5_16 : xFd RX5 16 (RX5, TX5, 13) 5 2 := ⟨rfl, by decide, Or.inl (xG_of (i := 553) (by decide +kernel) rfl), kc_X5, ⟨tyX5, tyX5_ok⟩, nmX5⟩
theorem kfw_X5_16 : Cond.fieldLink RX5 16 (TX5 2).1 (TX5 2).2.1 (TX5 2).2.2.1 ∈ xG := (xG_of (i := 553) (by decide +kernel) rfl)
theorem kf_X5_22 : xFd RX5 22 (RX5, TX5, 13) 5 3 := ⟨rfl, by decide, Or.inl (xG_of (i := 554) (by decide +kernel) rfl), kc_X5, ⟨tyX5, tyX5_ok⟩, nmX5⟩
theorem kfw_X5_22 : Cond.fieldLink RX5 22 (TX5 3).1 (TX5 3).2.1 (TX5 3).2.2.1 ∈ xG := (xG_of (i := 554) (by decide +kernel) rfl)
theorem kf_X5_19 : xFd RX5 19 (RX5, TX5, 13) 5 4 := ⟨rfl, by decide, Or.inl (xG_of (i := 555) (by decide +kernel) rfl), kc_X5, ⟨tyX5, tyX5_ok⟩, nmX5⟩
theorem kfw_X5_19 : Cond.fieldLink RX5 19 (TX5 4).1 (TX5 4).2.1 (TX5 4).2.2.1 ∈ xG := (xG_of (i := 555) (by decide +kernel) rfl)
theorem kf_X5_146 : xFd RX5 146 (RX5, TX5, 13) 5 5 := ⟨rfl, by decide, Or.inl (xG_of (i := 556) (by decide +kernel) rfl), kc_X5, ⟨tyX5, tyX5_ok⟩, nmX5⟩
theorem kfw_X5_146 : Cond.fieldLink RX5 146 (TX5 5).1 (TX5 5).2.1 (TX5 5).2.2.1 ∈ xG := (xG_of (i := 556) (by decide +kernel) rfl)
theorem kf_X5_61 : xFd RX5 61 (RX5, TX5, 13) 5 6 := ⟨rfl, by decide, Or.inl (xG_of (i := 557) (by decide +kernel) rfl), kc_X5, ⟨tyX5, tyX5_ok⟩, nmX5⟩
theorem kfw_X5_61 : Cond.fieldLink RX5 61 (TX5 6).1 (TX5 6).2.1 (TX5 6).2.2.1 ∈ xG := (xG_of (i := 557) (by decide +kernel) rfl)
theorem kf_X5_70 : xFd RX5 70 (RX5, TX5, 13) 5 7 := ⟨rfl, by decide, Or.inl (xG_of (i := 558) (by decide +kernel) rfl), kc_X5, ⟨tyX5, tyX5_ok⟩, nmX5⟩
theorem kfw_X5_70 : Cond.fieldLink RX5 70 (TX5 7).1 (TX5 7).2.1 (TX5 7).2.2.1 ∈ xG := (xG_of (i := 558) (by decide +kernel) rfl)
theorem kf_X5_149 : xFd RX5 149 (RX5, TX5, 13) 5 8 := ⟨rfl, by decide, Or.inl (xG_of (i := 559) (by decide +kernel) rfl), kc_X5, ⟨tyX5, tyX5_ok⟩, nmX5⟩
theorem kfw_X5_149 : Cond.fieldLink RX5 149 (TX5 8).1 (TX5 8).2.1 (TX5 8).2.2.1 ∈ xG := (xG_of (i := 559) (by decide +kernel) rfl)
theorem kf_X5_155 : xFd RX5 155 (RX5, TX5, 13) 5 9 := ⟨rfl, by decide, Or.inl (xG_of (i := 560) (by decide +kernel) rfl), kc_X5, ⟨tyX5, tyX5_ok⟩, nmX5⟩
theorem kfw_X5_155 : Cond.fieldLink RX5 155 (TX5 9).1 (TX5 9).2.1 (TX5 9).2.2.1 ∈ xG := (xG_of (i := 560) (by decide +kernel) rfl)
theorem kf_X5_168 : xFd RX5 168 (RX5, TX5, 13) 5 10 := ⟨rfl, by decide, Or.inl (xG_of (i := 561) (by decide +kernel) rfl), kc_X5, ⟨tyX5, tyX5_ok⟩, nmX5⟩
theorem kfw_X5_168 : Cond.fieldLink RX5 168 (TX5 10).1 (TX5 10).2.1 (TX5 10).2.2.1 ∈ xG := (xG_of (i := 561) (by decide +kernel) rfl)
theorem kf_X5_174 : xFd RX5 174 (RX5, TX5, 13) 5 11 := ⟨rfl, by decide, Or.inl (xG_of (i := 562) (by decide +kernel) rfl), kc_X5, ⟨tyX5, tyX5_ok⟩, nmX5⟩
theorem kfw_X5_174 : Cond.fieldLink RX5 174 (TX5 11).1 (TX5 11).2.1 (TX5 11).2.2.1 ∈ xG := (xG_of (i := 562) (by decide +kernel) rfl)
theorem kf_X5_162 : xFd RX5 162 (RX5, TX5, 13) 5 12 := ⟨rfl, by decide, Or.inl (xG_of (i := 563) (by decide +kernel) rfl), kc_X5, ⟨tyX5, tyX5_ok⟩, nmX5⟩
theorem kfw_X5_162 : Cond.fieldLink RX5 162 (TX5 12).1 (TX5 12).2.1 (TX5 12).2.2.1 ∈ xG := (xG_of (i := 563) (by decide +kernel) rfl)
theorem kj_X4_init : xYi yX4_init cX4_init 1 0 := ⟨(xG_of (i := 57) (by decide +kernel) rfl), (xG_of (i := 58) (by decide +kernel) rfl), (xG_of (i := 46) (by decide +kernel) rfl), ⟨by decide +kernel, by decide +kernel, by decide +kernel⟩, rfl⟩
theorem kj_X3_init : xYi yX3_init cX3_init 2 0 := ⟨(xG_of (i := 65) (by decide +kernel) rfl), (xG_of (i := 66) (by decide +kernel) rfl), (xG_of (i := 47) (by decide +kernel) rfl), ⟨by decide +kernel, by decide +kernel, by decide +kernel⟩, rfl⟩
theorem kj_X2_init : xYi yX2_init cX2_init 1 0 := ⟨(xG_of (i := 72) (by decide +kernel) rfl), (xG_of (i := 73) (by decide +kernel) rfl), (xG_of (i := 48) (by decide +kernel) rfl), ⟨by decide +kernel, by decide +kernel, by decide +kernel⟩, rfl⟩
theorem kj_X1_init : xYi yX1_init cX1_init 2 0 := ⟨(xG_of (i := 122) (by decide +kernel) rfl), (xG_of (i := 123) (by decide +kernel) rfl), (xG_of (i := 49) (by decide +kernel) rfl), ⟨by decide +kernel, by decide +kernel, by decide +kernel⟩, rfl⟩
theorem kj_X0_init : xYi yX0_init cX0_init 1 0 := ⟨(xG_of (i := 142) (by decide +kernel) rfl), (xG_of (i := 143) (by decide +kernel) rfl), (xG_of (i := 50) (by decide +kernel) rfl), ⟨by decide +kernel, by decide +kernel, by decide +kernel⟩, rfl⟩
theorem kv_X4_come : xYv yX4_come cX4_come 2 (some .int) 0 4 (RX4, TX4, 4) := ⟨(xG_of (i := 168) (by decide +kernel) rfl), (xG_of (i := 169) (by decide +kernel) rfl), (xG_of (i := 170) (by decide +kernel) rfl), (xG_of (i := 46) (by decide +kernel) rfl), ⟨by decide +kernel, by decide +kernel, by decide +kernel⟩, rfl, rfl⟩
theorem kv_X3_lowestFree : xYv yX3_lowestFree cX3_lowestFree 2 (some .int) 0 3 (RX3, TX3, 8) := ⟨(xG_of (i := 172) (by decide +kernel) rfl), (xG_of (i := 173) (by decide +kernel) rfl), (xG_of (i := 174) (by decide +kernel) rfl), (xG_of (i := 47) (by decide +kernel) rfl), ⟨by decide +kernel, by decide +kernel, by decide +kernel⟩, rfl, rfl⟩
theorem kv_X1_keep : xYv yX1_keep cX1_keep 2 none 1 1 (RX1, TX1, 3) := ⟨(xG_of (i := 176) (by decide +kernel) rfl), (xG_of (i := 177) (by decide +kernel) rfl), (xG_of (i := 178) (by decide +kernel) rfl), (xG_of (i := 49) (by decide +kernel) rfl), ⟨by decide +kernel, by decide +kernel, by decide +kernel⟩, rfl, rfl⟩
theorem ks_X4_isBelow : xYs yX4_isBelow cX4_isBelow 2 (some .boolean) 2 := ⟨(xG_of (i := 180) (by decide +kernel) rfl), (xG_of (i := 181) (by decide +kernel) rfl), (xG_of (i := 46) (by decide +kernel) rfl), ⟨by decide +kernel, by decide +kernel, by decide +kernel⟩⟩
theorem kv_X3_copyFrom : xYv yX3_copyFrom cX3_copyFrom 3 none 1 3 (RX3, TX3, 8) := ⟨(xG_of (i := 183) (by decide +kernel) rfl), (xG_of (i := 184) (by decide +kernel) rfl), (xG_of (i := 185) (by decide +kernel) rfl), (xG_of (i := 47) (by decide +kernel) rfl), ⟨by decide +kernel, by decide +kernel, by decide +kernel⟩, rfl, rfl⟩
theorem kv_X2_copyFrom : xYv yX2_copyFrom cX2_copyFrom 2 none 1 2 (RX2, TX2, 4) := ⟨(xG_of (i := 187) (by decide +kernel) rfl), (xG_of (i := 188) (by decide +kernel) rfl), (xG_of (i := 189) (by decide +kernel) rfl), (xG_of (i := 48) (by decide +kernel) rfl), ⟨by decide +kernel, by decide +kernel, by decide +kernel⟩, rfl, rfl⟩
theorem kv_X3_welcome : xYv yX3_welcome cX3_welcome 2 none 1 3 (RX3, TX3, 8) := ⟨(xG_of (i := 198) (by decide +kernel) rfl), (xG_of (i := 199) (by decide +kernel) rfl), (xG_of (i := 200) (by decide +kernel) rfl), (xG_of (i := 47) (by decide +kernel) rfl), ⟨by decide +kernel, by decide +kernel, by decide +kernel⟩, rfl, rfl⟩
theorem kv_X2_arrive : xYv yX2_arrive cX2_arrive 1 none 0 2 (RX2, TX2, 4) := ⟨(xG_of (i := 203) (by decide +kernel) rfl), (xG_of (i := 204) (by decide +kernel) rfl), (xG_of (i := 205) (by decide +kernel) rfl), (xG_of (i := 48) (by decide +kernel) rfl), ⟨by decide +kernel, by decide +kernel, by decide +kernel⟩, rfl, rfl⟩
theorem kv_X2_beginLife : xYv yX2_beginLife cX2_beginLife 6 none 2 2 (RX2, TX2, 4) := ⟨(xG_of (i := 207) (by decide +kernel) rfl), (xG_of (i := 208) (by decide +kernel) rfl), (xG_of (i := 209) (by decide +kernel) rfl), (xG_of (i := 48) (by decide +kernel) rfl), ⟨by decide +kernel, by decide +kernel, by decide +kernel⟩, rfl, rfl⟩
theorem kv_X2_weightOf : xYv yX2_weightOf cX2_weightOf 3 (some .int) 2 2 (RX2, TX2, 4) := ⟨(xG_of (i := 211) (by decide +kernel) rfl), (xG_of (i := 212) (by decide +kernel) rfl), (xG_of (i := 213) (by decide +kernel) rfl), (xG_of (i := 48) (by decide +kernel) rfl), ⟨by decide +kernel, by decide +kernel, by decide +kernel⟩, rfl, rfl⟩
theorem ks_X4_isMeaning : xYs yX4_isMeaning cX4_isMeaning 1 (some .boolean) 1 := ⟨(xG_of (i := 215) (by decide +kernel) rfl), (xG_of (i := 216) (by decide +kernel) rfl), (xG_of (i := 46) (by decide +kernel) rfl), ⟨by decide +kernel, by decide +kernel, by decide +kernel⟩⟩
theorem ks_X4_isWord : xYs yX4_isWord cX4_isWord 1 (some .boolean) 1 := ⟨(xG_of (i := 218) (by decide +kernel) rfl), (xG_of (i := 219) (by decide +kernel) rfl), (xG_of (i := 46) (by decide +kernel) rfl), ⟨by decide +kernel, by decide +kernel, by decide +kernel⟩⟩
theorem kv_X2_putWeight : xYv yX2_putWeight cX2_putWeight 4 none 3 2 (RX2, TX2, 4) := ⟨(xG_of (i := 221) (by decide +kernel) rfl), (xG_of (i := 222) (by decide +kernel) rfl), (xG_of (i := 223) (by decide +kernel) rfl), (xG_of (i := 48) (by decide +kernel) rfl), ⟨by decide +kernel, by decide +kernel, by decide +kernel⟩, rfl, rfl⟩
theorem kv_X4_go : xYv yX4_go cX4_go 3 (some .int) 1 4 (RX4, TX4, 4) := ⟨(xG_of (i := 229) (by decide +kernel) rfl), (xG_of (i := 230) (by decide +kernel) rfl), (xG_of (i := 231) (by decide +kernel) rfl), (xG_of (i := 46) (by decide +kernel) rfl), ⟨by decide +kernel, by decide +kernel, by decide +kernel⟩, rfl, rfl⟩
theorem kv_X3_find : xYv yX3_find cX3_find 2 (some (.object "GesturePidgin$Speaker")) 1 3 (RX3, TX3, 8) := ⟨(xG_of (i := 233) (by decide +kernel) rfl), (xG_of (i := 234) (by decide +kernel) rfl), (xG_of (i := 235) (by decide +kernel) rfl), (xG_of (i := 47) (by decide +kernel) rfl), ⟨by decide +kernel, by decide +kernel, by decide +kernel⟩, rfl, rfl⟩
theorem kv_X2_leave : xYv yX2_leave cX2_leave 1 none 0 2 (RX2, TX2, 4) := ⟨(xG_of (i := 237) (by decide +kernel) rfl), (xG_of (i := 238) (by decide +kernel) rfl), (xG_of (i := 239) (by decide +kernel) rfl), (xG_of (i := 48) (by decide +kernel) rfl), ⟨by decide +kernel, by decide +kernel, by decide +kernel⟩, rfl, rfl⟩
theorem kv_X3_countSpeakers : xYv yX3_countSpeakers cX3_countSpeakers 3 (some .int) 0 3 (RX3, TX3, 8) := ⟨(xG_of (i := 241) (by decide +kernel) rfl), (xG_of (i := 242) (by decide +kernel) rfl), (xG_of (i := 243) (by decide +kernel) rfl), (xG_of (i := 47) (by decide +kernel) rfl), ⟨by decide +kernel, by decide +kernel, by decide +kernel⟩, rfl, rfl⟩
theorem kv_X4_set : xYv yX4_set cX4_set 4 (some .int) 2 4 (RX4, TX4, 4) := ⟨(xG_of (i := 245) (by decide +kernel) rfl), (xG_of (i := 246) (by decide +kernel) rfl), (xG_of (i := 247) (by decide +kernel) rfl), (xG_of (i := 46) (by decide +kernel) rfl), ⟨by decide +kernel, by decide +kernel, by decide +kernel⟩, rfl, rfl⟩
theorem ks_X4_leastOf : xYs yX4_leastOf cX4_leastOf 1 (some .int) 1 := ⟨(xG_of (i := 250) (by decide +kernel) rfl), (xG_of (i := 251) (by decide +kernel) rfl), (xG_of (i := 46) (by decide +kernel) rfl), ⟨by decide +kernel, by decide +kernel, by decide +kernel⟩⟩
theorem ks_X4_mostOf : xYs yX4_mostOf cX4_mostOf 1 (some .int) 1 := ⟨(xG_of (i := 253) (by decide +kernel) rfl), (xG_of (i := 254) (by decide +kernel) rfl), (xG_of (i := 46) (by decide +kernel) rfl), ⟨by decide +kernel, by decide +kernel, by decide +kernel⟩⟩
theorem kv_X3_settingAt : xYv yX3_settingAt cX3_settingAt 2 (some .int) 1 3 (RX3, TX3, 8) := ⟨(xG_of (i := 256) (by decide +kernel) rfl), (xG_of (i := 257) (by decide +kernel) rfl), (xG_of (i := 258) (by decide +kernel) rfl), (xG_of (i := 47) (by decide +kernel) rfl), ⟨by decide +kernel, by decide +kernel, by decide +kernel⟩, rfl, rfl⟩
theorem kv_X3_putSetting : xYv yX3_putSetting cX3_putSetting 3 none 2 3 (RX3, TX3, 8) := ⟨(xG_of (i := 260) (by decide +kernel) rfl), (xG_of (i := 261) (by decide +kernel) rfl), (xG_of (i := 262) (by decide +kernel) rfl), (xG_of (i := 47) (by decide +kernel) rfl), ⟨by decide +kernel, by decide +kernel, by decide +kernel⟩, rfl, rfl⟩
theorem kv_X4_setSeed : xYv yX4_setSeed cX4_setSeed 3 (some .int) 1 4 (RX4, TX4, 4) := ⟨(xG_of (i := 264) (by decide +kernel) rfl), (xG_of (i := 265) (by decide +kernel) rfl), (xG_of (i := 266) (by decide +kernel) rfl), (xG_of (i := 46) (by decide +kernel) rfl), ⟨by decide +kernel, by decide +kernel, by decide +kernel⟩, rfl, rfl⟩
theorem kv_X4_teach : xYv yX4_teach cX4_teach 7 (some .int) 4 4 (RX4, TX4, 4) := ⟨(xG_of (i := 269) (by decide +kernel) rfl), (xG_of (i := 270) (by decide +kernel) rfl), (xG_of (i := 271) (by decide +kernel) rfl), (xG_of (i := 46) (by decide +kernel) rfl), ⟨by decide +kernel, by decide +kernel, by decide +kernel⟩, rfl, rfl⟩
theorem kv_X4_setAge : xYv yX4_setAge cX4_setAge 5 (some .int) 2 4 (RX4, TX4, 4) := ⟨(xG_of (i := 277) (by decide +kernel) rfl), (xG_of (i := 278) (by decide +kernel) rfl), (xG_of (i := 279) (by decide +kernel) rfl), (xG_of (i := 46) (by decide +kernel) rfl), ⟨by decide +kernel, by decide +kernel, by decide +kernel⟩, rfl, rfl⟩
theorem kv_X4_meet : xYv yX4_meet cX4_meet 6 (some .int) 3 4 (RX4, TX4, 4) := ⟨(xG_of (i := 281) (by decide +kernel) rfl), (xG_of (i := 282) (by decide +kernel) rfl), (xG_of (i := 283) (by decide +kernel) rfl), (xG_of (i := 46) (by decide +kernel) rfl), ⟨by decide +kernel, by decide +kernel, by decide +kernel⟩, rfl, rfl⟩
theorem kv_X3_holdMeeting : xYv yX3_holdMeeting cX3_holdMeeting 7 (some .int) 3 3 (RX3, TX3, 8) := ⟨(xG_of (i := 285) (by decide +kernel) rfl), (xG_of (i := 286) (by decide +kernel) rfl), (xG_of (i := 287) (by decide +kernel) rfl), (xG_of (i := 47) (by decide +kernel) rfl), ⟨by decide +kernel, by decide +kernel, by decide +kernel⟩, rfl, rfl⟩
theorem kv_X2_wordFor : xYv yX2_wordFor cX2_wordFor 6 (some .int) 1 2 (RX2, TX2, 4) := ⟨(xG_of (i := 289) (by decide +kernel) rfl), (xG_of (i := 290) (by decide +kernel) rfl), (xG_of (i := 291) (by decide +kernel) rfl), (xG_of (i := 48) (by decide +kernel) rfl), ⟨by decide +kernel, by decide +kernel, by decide +kernel⟩, rfl, rfl⟩
theorem kv_X3_draw : xYv yX3_draw cX3_draw 2 (some .int) 1 3 (RX3, TX3, 8) := ⟨(xG_of (i := 293) (by decide +kernel) rfl), (xG_of (i := 294) (by decide +kernel) rfl), (xG_of (i := 295) (by decide +kernel) rfl), (xG_of (i := 47) (by decide +kernel) rfl), ⟨by decide +kernel, by decide +kernel, by decide +kernel⟩, rfl, rfl⟩
theorem kv_X2_meaningOf : xYv yX2_meaningOf cX2_meaningOf 6 (some .int) 1 2 (RX2, TX2, 4) := ⟨(xG_of (i := 298) (by decide +kernel) rfl), (xG_of (i := 299) (by decide +kernel) rfl), (xG_of (i := 300) (by decide +kernel) rfl), (xG_of (i := 48) (by decide +kernel) rfl), ⟨by decide +kernel, by decide +kernel, by decide +kernel⟩, rfl, rfl⟩
theorem kv_X2_prefer : xYv yX2_prefer cX2_prefer 6 none 4 2 (RX2, TX2, 4) := ⟨(xG_of (i := 302) (by decide +kernel) rfl), (xG_of (i := 303) (by decide +kernel) rfl), (xG_of (i := 304) (by decide +kernel) rfl), (xG_of (i := 48) (by decide +kernel) rfl), ⟨by decide +kernel, by decide +kernel, by decide +kernel⟩, rfl, rfl⟩
theorem kv_X2_learnsWith : xYv yX2_learnsWith cX2_learnsWith 2 (some .int) 1 2 (RX2, TX2, 4) := ⟨(xG_of (i := 306) (by decide +kernel) rfl), (xG_of (i := 307) (by decide +kernel) rfl), (xG_of (i := 308) (by decide +kernel) rfl), (xG_of (i := 48) (by decide +kernel) rfl), ⟨by decide +kernel, by decide +kernel, by decide +kernel⟩, rfl, rfl⟩
theorem kv_X2_changeWeight : xYv yX2_changeWeight cX2_changeWeight 4 none 3 2 (RX2, TX2, 4) := ⟨(xG_of (i := 310) (by decide +kernel) rfl), (xG_of (i := 311) (by decide +kernel) rfl), (xG_of (i := 312) (by decide +kernel) rfl), (xG_of (i := 48) (by decide +kernel) rfl), ⟨by decide +kernel, by decide +kernel, by decide +kernel⟩, rfl, rfl⟩
theorem kv_X2_forgetOtherMeanings : xYv yX2_forgetOtherMeanings cX2_forgetOtherMeanings 5 none 3 2 (RX2, TX2, 4) := ⟨(xG_of (i := 314) (by decide +kernel) rfl), (xG_of (i := 315) (by decide +kernel) rfl), (xG_of (i := 316) (by decide +kernel) rfl), (xG_of (i := 48) (by decide +kernel) rfl), ⟨by decide +kernel, by decide +kernel, by decide +kernel⟩, rfl, rfl⟩
theorem kv_X4_chat : xYv yX4_chat cX4_chat 3 (some .int) 1 4 (RX4, TX4, 4) := ⟨(xG_of (i := 319) (by decide +kernel) rfl), (xG_of (i := 320) (by decide +kernel) rfl), (xG_of (i := 321) (by decide +kernel) rfl), (xG_of (i := 46) (by decide +kernel) rfl), ⟨by decide +kernel, by decide +kernel, by decide +kernel⟩, rfl, rfl⟩
theorem kv_X4_refusalOfChat : xYv yX4_refusalOfChat cX4_refusalOfChat 2 (some .int) 1 4 (RX4, TX4, 4) := ⟨(xG_of (i := 324) (by decide +kernel) rfl), (xG_of (i := 0) (by decide +kernel) rfl), (xG_of (i := 325) (by decide +kernel) rfl), (xG_of (i := 46) (by decide +kernel) rfl), ⟨by decide +kernel, by decide +kernel, by decide +kernel⟩, rfl, rfl⟩
theorem kv_X3_holdChats : xYv yX3_holdChats cX3_holdChats 10 (some .int) 1 3 (RX3, TX3, 8) := ⟨(xG_of (i := 327) (by decide +kernel) rfl), (xG_of (i := 328) (by decide +kernel) rfl), (xG_of (i := 329) (by decide +kernel) rfl), (xG_of (i := 47) (by decide +kernel) rfl), ⟨by decide +kernel, by decide +kernel, by decide +kernel⟩, rfl, rfl⟩
theorem kv_X3_numberInOrder : xYv yX3_numberInOrder cX3_numberInOrder 5 (some .int) 2 3 (RX3, TX3, 8) := ⟨(xG_of (i := 332) (by decide +kernel) rfl), (xG_of (i := 333) (by decide +kernel) rfl), (xG_of (i := 334) (by decide +kernel) rfl), (xG_of (i := 47) (by decide +kernel) rfl), ⟨by decide +kernel, by decide +kernel, by decide +kernel⟩, rfl, rfl⟩
theorem kv_X4_age : xYv yX4_age cX4_age 2 (some .int) 1 4 (RX4, TX4, 4) := ⟨(xG_of (i := 338) (by decide +kernel) rfl), (xG_of (i := 339) (by decide +kernel) rfl), (xG_of (i := 340) (by decide +kernel) rfl), (xG_of (i := 46) (by decide +kernel) rfl), ⟨by decide +kernel, by decide +kernel, by decide +kernel⟩, rfl, rfl⟩
theorem kv_X3_passYears : xYv yX3_passYears cX3_passYears 4 (some .int) 1 3 (RX3, TX3, 8) := ⟨(xG_of (i := 342) (by decide +kernel) rfl), (xG_of (i := 343) (by decide +kernel) rfl), (xG_of (i := 344) (by decide +kernel) rfl), (xG_of (i := 47) (by decide +kernel) rfl), ⟨by decide +kernel, by decide +kernel, by decide +kernel⟩, rfl, rfl⟩
theorem kv_X3_passYear : xYv yX3_passYear cX3_passYear 3 none 0 3 (RX3, TX3, 8) := ⟨(xG_of (i := 347) (by decide +kernel) rfl), (xG_of (i := 1) (by decide +kernel) rfl), (xG_of (i := 348) (by decide +kernel) rfl), (xG_of (i := 47) (by decide +kernel) rfl), ⟨by decide +kernel, by decide +kernel, by decide +kernel⟩, rfl, rfl⟩
theorem kv_X3_teacherFor : xYv yX3_teacherFor cX3_teacherFor 5 (some (.object "GesturePidgin$Speaker")) 1 3 (RX3, TX3, 8) := ⟨(xG_of (i := 351) (by decide +kernel) rfl), (xG_of (i := 2) (by decide +kernel) rfl), (xG_of (i := 352) (by decide +kernel) rfl), (xG_of (i := 47) (by decide +kernel) rfl), ⟨by decide +kernel, by decide +kernel, by decide +kernel⟩, rfl, rfl⟩
theorem kv_X4_count : xYv yX4_count cX4_count 2 (some .int) 1 4 (RX4, TX4, 4) := ⟨(xG_of (i := 355) (by decide +kernel) rfl), (xG_of (i := 356) (by decide +kernel) rfl), (xG_of (i := 357) (by decide +kernel) rfl), (xG_of (i := 46) (by decide +kernel) rfl), ⟨by decide +kernel, by decide +kernel, by decide +kernel⟩, rfl, rfl⟩
theorem kv_X3_numberOf : xYv yX3_numberOf cX3_numberOf 2 (some .int) 1 3 (RX3, TX3, 8) := ⟨(xG_of (i := 359) (by decide +kernel) rfl), (xG_of (i := 360) (by decide +kernel) rfl), (xG_of (i := 361) (by decide +kernel) rfl), (xG_of (i := 47) (by decide +kernel) rfl), ⟨by decide +kernel, by decide +kernel, by decide +kernel⟩, rfl, rfl⟩
theorem kv_X3_sumOfWeights : xYv yX3_sumOfWeights cX3_sumOfWeights 3 (some .int) 0 3 (RX3, TX3, 8) := ⟨(xG_of (i := 364) (by decide +kernel) rfl), (xG_of (i := 3) (by decide +kernel) rfl), (xG_of (i := 365) (by decide +kernel) rfl), (xG_of (i := 47) (by decide +kernel) rfl), ⟨by decide +kernel, by decide +kernel, by decide +kernel⟩, rfl, rfl⟩
theorem kv_X2_sumOfWeights : xYv yX2_sumOfWeights cX2_sumOfWeights 6 (some .int) 0 2 (RX2, TX2, 4) := ⟨(xG_of (i := 367) (by decide +kernel) rfl), (xG_of (i := 368) (by decide +kernel) rfl), (xG_of (i := 369) (by decide +kernel) rfl), (xG_of (i := 48) (by decide +kernel) rfl), ⟨by decide +kernel, by decide +kernel, by decide +kernel⟩, rfl, rfl⟩
theorem kv_X4_setting : xYv yX4_setting cX4_setting 2 (some .int) 1 4 (RX4, TX4, 4) := ⟨(xG_of (i := 371) (by decide +kernel) rfl), (xG_of (i := 372) (by decide +kernel) rfl), (xG_of (i := 373) (by decide +kernel) rfl), (xG_of (i := 46) (by decide +kernel) rfl), ⟨by decide +kernel, by decide +kernel, by decide +kernel⟩, rfl, rfl⟩
theorem kv_X4_weight : xYv yX4_weight cX4_weight 5 (some .int) 3 4 (RX4, TX4, 4) := ⟨(xG_of (i := 375) (by decide +kernel) rfl), (xG_of (i := 376) (by decide +kernel) rfl), (xG_of (i := 377) (by decide +kernel) rfl), (xG_of (i := 46) (by decide +kernel) rfl), ⟨by decide +kernel, by decide +kernel, by decide +kernel⟩, rfl, rfl⟩
theorem kv_X4_speaker : xYv yX4_speaker cX4_speaker 4 (some .int) 2 4 (RX4, TX4, 4) := ⟨(xG_of (i := 379) (by decide +kernel) rfl), (xG_of (i := 380) (by decide +kernel) rfl), (xG_of (i := 381) (by decide +kernel) rfl), (xG_of (i := 46) (by decide +kernel) rfl), ⟨by decide +kernel, by decide +kernel, by decide +kernel⟩, rfl, rfl⟩
theorem kv_X3_numberOfSpeaker : xYv yX3_numberOfSpeaker cX3_numberOfSpeaker 3 (some .int) 2 3 (RX3, TX3, 8) := ⟨(xG_of (i := 383) (by decide +kernel) rfl), (xG_of (i := 384) (by decide +kernel) rfl), (xG_of (i := 385) (by decide +kernel) rfl), (xG_of (i := 47) (by decide +kernel) rfl), ⟨by decide +kernel, by decide +kernel, by decide +kernel⟩, rfl, rfl⟩
theorem kv_X2_countWords : xYv yX2_countWords cX2_countWords 3 (some .int) 0 2 (RX2, TX2, 4) := ⟨(xG_of (i := 388) (by decide +kernel) rfl), (xG_of (i := 389) (by decide +kernel) rfl), (xG_of (i := 390) (by decide +kernel) rfl), (xG_of (i := 48) (by decide +kernel) rfl), ⟨by decide +kernel, by decide +kernel, by decide +kernel⟩, rfl, rfl⟩
theorem kv_X2_countConfusions : xYv yX2_countConfusions cX2_countConfusions 5 (some .int) 0 2 (RX2, TX2, 4) := ⟨(xG_of (i := 393) (by decide +kernel) rfl), (xG_of (i := 394) (by decide +kernel) rfl), (xG_of (i := 395) (by decide +kernel) rfl), (xG_of (i := 48) (by decide +kernel) rfl), ⟨by decide +kernel, by decide +kernel, by decide +kernel⟩, rfl, rfl⟩
theorem kv_X4_wordOf : xYv yX4_wordOf cX4_wordOf 4 (some .int) 2 4 (RX4, TX4, 4) := ⟨(xG_of (i := 397) (by decide +kernel) rfl), (xG_of (i := 398) (by decide +kernel) rfl), (xG_of (i := 399) (by decide +kernel) rfl), (xG_of (i := 46) (by decide +kernel) rfl), ⟨by decide +kernel, by decide +kernel, by decide +kernel⟩, rfl, rfl⟩
theorem kv_X4_hears : xYv yX4_hears cX4_hears 4 (some .int) 2 4 (RX4, TX4, 4) := ⟨(xG_of (i := 402) (by decide +kernel) rfl), (xG_of (i := 403) (by decide +kernel) rfl), (xG_of (i := 404) (by decide +kernel) rfl), (xG_of (i := 46) (by decide +kernel) rfl), ⟨by decide +kernel, by decide +kernel, by decide +kernel⟩, rfl, rfl⟩
theorem kv_X4_gesture : xYv yX4_gesture cX4_gesture 5 (some .int) 2 4 (RX4, TX4, 4) := ⟨(xG_of (i := 407) (by decide +kernel) rfl), (xG_of (i := 408) (by decide +kernel) rfl), (xG_of (i := 409) (by decide +kernel) rfl), (xG_of (i := 46) (by decide +kernel) rfl), ⟨by decide +kernel, by decide +kernel, by decide +kernel⟩, rfl, rfl⟩
theorem ks_X4_lengthOfWord : xYs yX4_lengthOfWord cX4_lengthOfWord 2 (some .int) 1 := ⟨(xG_of (i := 411) (by decide +kernel) rfl), (xG_of (i := 412) (by decide +kernel) rfl), (xG_of (i := 46) (by decide +kernel) rfl), ⟨by decide +kernel, by decide +kernel, by decide +kernel⟩⟩
theorem ks_X4_codeOfWord : xYs yX4_codeOfWord cX4_codeOfWord 1 (some .int) 1 := ⟨(xG_of (i := 414) (by decide +kernel) rfl), (xG_of (i := 415) (by decide +kernel) rfl), (xG_of (i := 46) (by decide +kernel) rfl), ⟨by decide +kernel, by decide +kernel, by decide +kernel⟩⟩
theorem kv_X4_agreement : xYv yX4_agreement cX4_agreement 6 (some .int) 3 4 (RX4, TX4, 4) := ⟨(xG_of (i := 417) (by decide +kernel) rfl), (xG_of (i := 418) (by decide +kernel) rfl), (xG_of (i := 419) (by decide +kernel) rfl), (xG_of (i := 46) (by decide +kernel) rfl), ⟨by decide +kernel, by decide +kernel, by decide +kernel⟩, rfl, rfl⟩
theorem ks_X4_agreementByMeanings : xYs yX4_agreementByMeanings cX4_agreementByMeanings 5 (some .int) 2 := ⟨(xG_of (i := 421) (by decide +kernel) rfl), (xG_of (i := 422) (by decide +kernel) rfl), (xG_of (i := 46) (by decide +kernel) rfl), ⟨by decide +kernel, by decide +kernel, by decide +kernel⟩⟩
theorem ks_X4_agreementByWords : xYs yX4_agreementByWords cX4_agreementByWords 5 (some .int) 2 := ⟨(xG_of (i := 424) (by decide +kernel) rfl), (xG_of (i := 425) (by decide +kernel) rfl), (xG_of (i := 46) (by decide +kernel) rfl), ⟨by decide +kernel, by decide +kernel, by decide +kernel⟩⟩
theorem kv_X4_understanding : xYv yX4_understanding cX4_understanding 5 (some .int) 2 4 (RX4, TX4, 4) := ⟨(xG_of (i := 427) (by decide +kernel) rfl), (xG_of (i := 428) (by decide +kernel) rfl), (xG_of (i := 429) (by decide +kernel) rfl), (xG_of (i := 46) (by decide +kernel) rfl), ⟨by decide +kernel, by decide +kernel, by decide +kernel⟩, rfl, rfl⟩
theorem ks_X4_understandingOf : xYs yX4_understandingOf cX4_understandingOf 5 (some .int) 2 := ⟨(xG_of (i := 431) (by decide +kernel) rfl), (xG_of (i := 432) (by decide +kernel) rfl), (xG_of (i := 46) (by decide +kernel) rfl), ⟨by decide +kernel, by decide +kernel, by decide +kernel⟩⟩
theorem kv_X4_common : xYv yX4_common cX4_common 2 (some .int) 1 4 (RX4, TX4, 4) := ⟨(xG_of (i := 434) (by decide +kernel) rfl), (xG_of (i := 435) (by decide +kernel) rfl), (xG_of (i := 436) (by decide +kernel) rfl), (xG_of (i := 46) (by decide +kernel) rfl), ⟨by decide +kernel, by decide +kernel, by decide +kernel⟩, rfl, rfl⟩
theorem kv_X3_commonWord : xYv yX3_commonWord cX3_commonWord 5 (some .int) 1 3 (RX3, TX3, 8) := ⟨(xG_of (i := 438) (by decide +kernel) rfl), (xG_of (i := 439) (by decide +kernel) rfl), (xG_of (i := 440) (by decide +kernel) rfl), (xG_of (i := 47) (by decide +kernel) rfl), ⟨by decide +kernel, by decide +kernel, by decide +kernel⟩, rfl, rfl⟩
theorem kv_X3_countUsers : xYv yX3_countUsers cX3_countUsers 4 none 1 3 (RX3, TX3, 8) := ⟨(xG_of (i := 443) (by decide +kernel) rfl), (xG_of (i := 4) (by decide +kernel) rfl), (xG_of (i := 444) (by decide +kernel) rfl), (xG_of (i := 47) (by decide +kernel) rfl), ⟨by decide +kernel, by decide +kernel, by decide +kernel⟩, rfl, rfl⟩
theorem kv_X4_ifMet : xYv yX4_ifMet cX4_ifMet 8 (some .int) 4 4 (RX4, TX4, 4) := ⟨(xG_of (i := 447) (by decide +kernel) rfl), (xG_of (i := 448) (by decide +kernel) rfl), (xG_of (i := 449) (by decide +kernel) rfl), (xG_of (i := 46) (by decide +kernel) rfl), ⟨by decide +kernel, by decide +kernel, by decide +kernel⟩, rfl, rfl⟩
theorem kv_X4_ifChat : xYv yX4_ifChat cX4_ifChat 3 (some .int) 1 4 (RX4, TX4, 4) := ⟨(xG_of (i := 452) (by decide +kernel) rfl), (xG_of (i := 453) (by decide +kernel) rfl), (xG_of (i := 454) (by decide +kernel) rfl), (xG_of (i := 46) (by decide +kernel) rfl), ⟨by decide +kernel, by decide +kernel, by decide +kernel⟩, rfl, rfl⟩
theorem kv_X4_bestSayer : xYv yX4_bestSayer cX4_bestSayer 8 (some .int) 1 4 (RX4, TX4, 4) := ⟨(xG_of (i := 456) (by decide +kernel) rfl), (xG_of (i := 457) (by decide +kernel) rfl), (xG_of (i := 458) (by decide +kernel) rfl), (xG_of (i := 46) (by decide +kernel) rfl), ⟨by decide +kernel, by decide +kernel, by decide +kernel⟩, rfl, rfl⟩
theorem kv_X4_type : xYv yX4_type cX4_type 2 (some .int) 1 4 (RX4, TX4, 4) := ⟨(xG_of (i := 460) (by decide +kernel) rfl), (xG_of (i := 461) (by decide +kernel) rfl), (xG_of (i := 462) (by decide +kernel) rfl), (xG_of (i := 46) (by decide +kernel) rfl), ⟨by decide +kernel, by decide +kernel, by decide +kernel⟩, rfl, rfl⟩
theorem kv_X0_append : xYv yX0_append cX0_append 2 (some .boolean) 1 0 (RX0, TX0, 2) := ⟨(xG_of (i := 464) (by decide +kernel) rfl), (xG_of (i := 465) (by decide +kernel) rfl), (xG_of (i := 466) (by decide +kernel) rfl), (xG_of (i := 50) (by decide +kernel) rfl), ⟨by decide +kernel, by decide +kernel, by decide +kernel⟩, rfl, rfl⟩
theorem kv_X4_clearText : xYv yX4_clearText cX4_clearText 2 (some .int) 0 4 (RX4, TX4, 4) := ⟨(xG_of (i := 469) (by decide +kernel) rfl), (xG_of (i := 470) (by decide +kernel) rfl), (xG_of (i := 471) (by decide +kernel) rfl), (xG_of (i := 46) (by decide +kernel) rfl), ⟨by decide +kernel, by decide +kernel, by decide +kernel⟩, rfl, rfl⟩
theorem kv_X4_syntaxError : xYv yX4_syntaxError cX4_syntaxError 1 (some .int) 0 4 (RX4, TX4, 4) := ⟨(xG_of (i := 473) (by decide +kernel) rfl), (xG_of (i := 474) (by decide +kernel) rfl), (xG_of (i := 475) (by decide +kernel) rfl), (xG_of (i := 46) (by decide +kernel) rfl), ⟨by decide +kernel, by decide +kernel, by decide +kernel⟩, rfl, rfl⟩
theorem kv_X0_firstError : xYv yX0_firstError cX0_firstError 3 (some .int) 0 0 (RX0, TX0, 2) := ⟨(xG_of (i := 477) (by decide +kernel) rfl), (xG_of (i := 478) (by decide +kernel) rfl), (xG_of (i := 479) (by decide +kernel) rfl), (xG_of (i := 50) (by decide +kernel) rfl), ⟨by decide +kernel, by decide +kernel, by decide +kernel⟩, rfl, rfl⟩
theorem kv_X0_signAt : xYv yX0_signAt cX0_signAt 2 (some .int) 1 0 (RX0, TX0, 2) := ⟨(xG_of (i := 482) (by decide +kernel) rfl), (xG_of (i := 5) (by decide +kernel) rfl), (xG_of (i := 483) (by decide +kernel) rfl), (xG_of (i := 50) (by decide +kernel) rfl), ⟨by decide +kernel, by decide +kernel, by decide +kernel⟩, rfl, rfl⟩
theorem ks_X0_expectedAfter : xYs yX0_expectedAfter cX0_expectedAfter 2 (some .int) 2 := ⟨(xG_of (i := 485) (by decide +kernel) rfl), (xG_of (i := 486) (by decide +kernel) rfl), (xG_of (i := 50) (by decide +kernel) rfl), ⟨by decide +kernel, by decide +kernel, by decide +kernel⟩⟩
theorem ks_X0_isGesture : xYs yX0_isGesture cX0_isGesture 1 (some .boolean) 1 := ⟨(xG_of (i := 488) (by decide +kernel) rfl), (xG_of (i := 489) (by decide +kernel) rfl), (xG_of (i := 50) (by decide +kernel) rfl), ⟨by decide +kernel, by decide +kernel, by decide +kernel⟩⟩
theorem ks_X0_afterStar : xYs yX0_afterStar cX0_afterStar 1 (some .int) 1 := ⟨(xG_of (i := 491) (by decide +kernel) rfl), (xG_of (i := 492) (by decide +kernel) rfl), (xG_of (i := 50) (by decide +kernel) rfl), ⟨by decide +kernel, by decide +kernel, by decide +kernel⟩⟩
theorem ks_X0_isDigit : xYs yX0_isDigit cX0_isDigit 1 (some .boolean) 1 := ⟨(xG_of (i := 494) (by decide +kernel) rfl), (xG_of (i := 495) (by decide +kernel) rfl), (xG_of (i := 50) (by decide +kernel) rfl), ⟨by decide +kernel, by decide +kernel, by decide +kernel⟩⟩
theorem ks_X0_afterEnd : xYs yX0_afterEnd cX0_afterEnd 1 (some .int) 1 := ⟨(xG_of (i := 497) (by decide +kernel) rfl), (xG_of (i := 498) (by decide +kernel) rfl), (xG_of (i := 50) (by decide +kernel) rfl), ⟨by decide +kernel, by decide +kernel, by decide +kernel⟩⟩
theorem kv_X4_learn : xYv yX4_learn cX4_learn 2 (some .int) 0 4 (RX4, TX4, 4) := ⟨(xG_of (i := 500) (by decide +kernel) rfl), (xG_of (i := 501) (by decide +kernel) rfl), (xG_of (i := 502) (by decide +kernel) rfl), (xG_of (i := 46) (by decide +kernel) rfl), ⟨by decide +kernel, by decide +kernel, by decide +kernel⟩, rfl, rfl⟩
theorem kv_X0_giveHabits : xYv yX0_giveHabits cX0_giveHabits 6 (some .int) 1 0 (RX0, TX0, 2) := ⟨(xG_of (i := 504) (by decide +kernel) rfl), (xG_of (i := 505) (by decide +kernel) rfl), (xG_of (i := 506) (by decide +kernel) rfl), (xG_of (i := 50) (by decide +kernel) rfl), ⟨by decide +kernel, by decide +kernel, by decide +kernel⟩, rfl, rfl⟩
theorem kv_X0_digitAt : xYv yX0_digitAt cX0_digitAt 2 (some .int) 1 0 (RX0, TX0, 2) := ⟨(xG_of (i := 509) (by decide +kernel) rfl), (xG_of (i := 6) (by decide +kernel) rfl), (xG_of (i := 510) (by decide +kernel) rfl), (xG_of (i := 50) (by decide +kernel) rfl), ⟨by decide +kernel, by decide +kernel, by decide +kernel⟩, rfl, rfl⟩
theorem kv_X0_giveHabit : xYv yX0_giveHabit cX0_giveHabit 8 none 3 0 (RX0, TX0, 2) := ⟨(xG_of (i := 514) (by decide +kernel) rfl), (xG_of (i := 7) (by decide +kernel) rfl), (xG_of (i := 515) (by decide +kernel) rfl), (xG_of (i := 50) (by decide +kernel) rfl), ⟨by decide +kernel, by decide +kernel, by decide +kernel⟩, rfl, rfl⟩
theorem ks_X4_wordOfCode : xYs yX4_wordOfCode cX4_wordOfCode 1 (some .int) 1 := ⟨(xG_of (i := 517) (by decide +kernel) rfl), (xG_of (i := 518) (by decide +kernel) rfl), (xG_of (i := 46) (by decide +kernel) rfl), ⟨by decide +kernel, by decide +kernel, by decide +kernel⟩⟩
theorem kv_X4_undo : xYv yX4_undo cX4_undo 1 (some .int) 0 4 (RX4, TX4, 4) := ⟨(xG_of (i := 521) (by decide +kernel) rfl), (xG_of (i := 522) (by decide +kernel) rfl), (xG_of (i := 523) (by decide +kernel) rfl), (xG_of (i := 46) (by decide +kernel) rfl), ⟨by decide +kernel, by decide +kernel, by decide +kernel⟩, rfl, rfl⟩
theorem kv_X1_restore : xYv yX1_restore cX1_restore 3 (some .boolean) 1 1 (RX1, TX1, 3) := ⟨(xG_of (i := 525) (by decide +kernel) rfl), (xG_of (i := 526) (by decide +kernel) rfl), (xG_of (i := 527) (by decide +kernel) rfl), (xG_of (i := 49) (by decide +kernel) rfl), ⟨by decide +kernel, by decide +kernel, by decide +kernel⟩, rfl, rfl⟩
theorem kv_X4_digest : xYv yX4_digest cX4_digest 4 (some .long) 0 4 (RX4, TX4, 4) := ⟨(xG_of (i := 529) (by decide +kernel) rfl), (xG_of (i := 530) (by decide +kernel) rfl), (xG_of (i := 531) (by decide +kernel) rfl), (xG_of (i := 46) (by decide +kernel) rfl), ⟨by decide +kernel, by decide +kernel, by decide +kernel⟩, rfl, rfl⟩
theorem ks_X4_mixed : xYs yX4_mixed cX4_mixed 3 (some .long) 2 := ⟨(xG_of (i := 534) (by decide +kernel) rfl), (xG_of (i := 535) (by decide +kernel) rfl), (xG_of (i := 46) (by decide +kernel) rfl), ⟨by decide +kernel, by decide +kernel, by decide +kernel⟩⟩
theorem kv_X4_withSpeaker : xYv yX4_withSpeaker cX4_withSpeaker 8 (some .long) 2 4 (RX4, TX4, 4) := ⟨(xG_of (i := 539) (by decide +kernel) rfl), (xG_of (i := 8) (by decide +kernel) rfl), (xG_of (i := 540) (by decide +kernel) rfl), (xG_of (i := 46) (by decide +kernel) rfl), ⟨by decide +kernel, by decide +kernel, by decide +kernel⟩, rfl, rfl⟩
theorem kv_X4_withPairsOf : xYv yX4_withPairsOf cX4_withPairsOf 9 (some .long) 2 4 (RX4, TX4, 4) := ⟨(xG_of (i := 543) (by decide +kernel) rfl), (xG_of (i := 9) (by decide +kernel) rfl), (xG_of (i := 544) (by decide +kernel) rfl), (xG_of (i := 46) (by decide +kernel) rfl), ⟨by decide +kernel, by decide +kernel, by decide +kernel⟩, rfl, rfl⟩
theorem kj_X5_init : xYi yX5_init cX5_init 1 0 := ⟨(xG_of (i := 548) (by decide +kernel) rfl), (xG_of (i := 549) (by decide +kernel) rfl), (xG_of (i := 51) (by decide +kernel) rfl), ⟨by decide +kernel, by decide +kernel, by decide +kernel⟩, rfl⟩
theorem kv_X5_meet : xYv yX5_meet cX5_meet 5 (some .int) 3 5 (RX5, TX5, 13) := ⟨(xG_of (i := 592) (by decide +kernel) rfl), (xG_of (i := 593) (by decide +kernel) rfl), (xG_of (i := 594) (by decide +kernel) rfl), (xG_of (i := 51) (by decide +kernel) rfl), ⟨by decide +kernel, by decide +kernel, by decide +kernel⟩, rfl, rfl⟩
theorem kv_X5_whyNotMet : xYv yX5_whyNotMet cX5_whyNotMet 4 (some .int) 3 5 (RX5, TX5, 13) := ⟨(xG_of (i := 597) (by decide +kernel) rfl), (xG_of (i := 10) (by decide +kernel) rfl), (xG_of (i := 598) (by decide +kernel) rfl), (xG_of (i := 51) (by decide +kernel) rfl), ⟨by decide +kernel, by decide +kernel, by decide +kernel⟩, rfl, rfl⟩
theorem kv_X5_isSpeaker : xYv yX5_isSpeaker cX5_isSpeaker 2 (some .boolean) 1 5 (RX5, TX5, 13) := ⟨(xG_of (i := 601) (by decide +kernel) rfl), (xG_of (i := 11) (by decide +kernel) rfl), (xG_of (i := 602) (by decide +kernel) rfl), (xG_of (i := 51) (by decide +kernel) rfl), ⟨by decide +kernel, by decide +kernel, by decide +kernel⟩, rfl, rfl⟩
theorem ks_X5_within : xYs yX5_within cX5_within 3 (some .boolean) 3 := ⟨(xG_of (i := 604) (by decide +kernel) rfl), (xG_of (i := 605) (by decide +kernel) rfl), (xG_of (i := 51) (by decide +kernel) rfl), ⟨by decide +kernel, by decide +kernel, by decide +kernel⟩⟩
theorem kv_X5_part : xYv yX5_part cX5_part 3 (some .int) 2 5 (RX5, TX5, 13) := ⟨(xG_of (i := 608) (by decide +kernel) rfl), (xG_of (i := 12) (by decide +kernel) rfl), (xG_of (i := 609) (by decide +kernel) rfl), (xG_of (i := 51) (by decide +kernel) rfl), ⟨by decide +kernel, by decide +kernel, by decide +kernel⟩, rfl, rfl⟩
theorem ks_X5_isMeaning : xYs yX5_isMeaning cX5_isMeaning 1 (some .boolean) 1 := ⟨(xG_of (i := 611) (by decide +kernel) rfl), (xG_of (i := 612) (by decide +kernel) rfl), (xG_of (i := 51) (by decide +kernel) rfl), ⟨by decide +kernel, by decide +kernel, by decide +kernel⟩⟩
theorem kv_X5_record : xYv yX5_record cX5_record 2 none 0 5 (RX5, TX5, 13) := ⟨(xG_of (i := 615) (by decide +kernel) rfl), (xG_of (i := 13) (by decide +kernel) rfl), (xG_of (i := 616) (by decide +kernel) rfl), (xG_of (i := 51) (by decide +kernel) rfl), ⟨by decide +kernel, by decide +kernel, by decide +kernel⟩, rfl, rfl⟩
theorem ks_X5_copies : xYs yX5_copies cX5_copies 5 none 4 := ⟨(xG_of (i := 618) (by decide +kernel) rfl), (xG_of (i := 619) (by decide +kernel) rfl), (xG_of (i := 51) (by decide +kernel) rfl), ⟨by decide +kernel, by decide +kernel, by decide +kernel⟩⟩
theorem kv_X5_meets : xYv yX5_meets cX5_meets 5 (some .boolean) 3 5 (RX5, TX5, 13) := ⟨(xG_of (i := 622) (by decide +kernel) rfl), (xG_of (i := 14) (by decide +kernel) rfl), (xG_of (i := 623) (by decide +kernel) rfl), (xG_of (i := 51) (by decide +kernel) rfl), ⟨by decide +kernel, by decide +kernel, by decide +kernel⟩, rfl, rfl⟩
theorem kv_X5_wordFor : xYv yX5_wordFor cX5_wordFor 7 (some .int) 2 5 (RX5, TX5, 13) := ⟨(xG_of (i := 626) (by decide +kernel) rfl), (xG_of (i := 15) (by decide +kernel) rfl), (xG_of (i := 627) (by decide +kernel) rfl), (xG_of (i := 51) (by decide +kernel) rfl), ⟨by decide +kernel, by decide +kernel, by decide +kernel⟩, rfl, rfl⟩
theorem kv_X5_weightOf : xYv yX5_weightOf cX5_weightOf 4 (some .int) 3 5 (RX5, TX5, 13) := ⟨(xG_of (i := 630) (by decide +kernel) rfl), (xG_of (i := 16) (by decide +kernel) rfl), (xG_of (i := 631) (by decide +kernel) rfl), (xG_of (i := 51) (by decide +kernel) rfl), ⟨by decide +kernel, by decide +kernel, by decide +kernel⟩, rfl, rfl⟩
theorem ks_X5_weightAt : xYs yX5_weightAt cX5_weightAt 3 (some .int) 3 := ⟨(xG_of (i := 633) (by decide +kernel) rfl), (xG_of (i := 634) (by decide +kernel) rfl), (xG_of (i := 51) (by decide +kernel) rfl), ⟨by decide +kernel, by decide +kernel, by decide +kernel⟩⟩
theorem kv_X5_draws : xYv yX5_draws cX5_draws 2 (some .int) 1 5 (RX5, TX5, 13) := ⟨(xG_of (i := 637) (by decide +kernel) rfl), (xG_of (i := 17) (by decide +kernel) rfl), (xG_of (i := 638) (by decide +kernel) rfl), (xG_of (i := 51) (by decide +kernel) rfl), ⟨by decide +kernel, by decide +kernel, by decide +kernel⟩, rfl, rfl⟩
theorem kv_X5_heardAs : xYv yX5_heardAs cX5_heardAs 7 (some .int) 2 5 (RX5, TX5, 13) := ⟨(xG_of (i := 642) (by decide +kernel) rfl), (xG_of (i := 18) (by decide +kernel) rfl), (xG_of (i := 643) (by decide +kernel) rfl), (xG_of (i := 51) (by decide +kernel) rfl), ⟨by decide +kernel, by decide +kernel, by decide +kernel⟩, rfl, rfl⟩
theorem kv_X5_strengthens : xYv yX5_strengthens cX5_strengthens 5 none 3 5 (RX5, TX5, 13) := ⟨(xG_of (i := 646) (by decide +kernel) rfl), (xG_of (i := 19) (by decide +kernel) rfl), (xG_of (i := 647) (by decide +kernel) rfl), (xG_of (i := 51) (by decide +kernel) rfl), ⟨by decide +kernel, by decide +kernel, by decide +kernel⟩, rfl, rfl⟩
theorem kv_X5_learns : xYv yX5_learns cX5_learns 3 (some .int) 1 5 (RX5, TX5, 13) := ⟨(xG_of (i := 650) (by decide +kernel) rfl), (xG_of (i := 20) (by decide +kernel) rfl), (xG_of (i := 651) (by decide +kernel) rfl), (xG_of (i := 51) (by decide +kernel) rfl), ⟨by decide +kernel, by decide +kernel, by decide +kernel⟩, rfl, rfl⟩
theorem kv_X5_changes : xYv yX5_changes cX5_changes 6 none 4 5 (RX5, TX5, 13) := ⟨(xG_of (i := 654) (by decide +kernel) rfl), (xG_of (i := 21) (by decide +kernel) rfl), (xG_of (i := 655) (by decide +kernel) rfl), (xG_of (i := 51) (by decide +kernel) rfl), ⟨by decide +kernel, by decide +kernel, by decide +kernel⟩, rfl, rfl⟩
theorem kv_X5_setPart : xYv yX5_setPart cX5_setPart 4 none 3 5 (RX5, TX5, 13) := ⟨(xG_of (i := 658) (by decide +kernel) rfl), (xG_of (i := 22) (by decide +kernel) rfl), (xG_of (i := 659) (by decide +kernel) rfl), (xG_of (i := 51) (by decide +kernel) rfl), ⟨by decide +kernel, by decide +kernel, by decide +kernel⟩, rfl, rfl⟩
theorem kv_X5_chat : xYv yX5_chat cX5_chat 3 (some .int) 1 5 (RX5, TX5, 13) := ⟨(xG_of (i := 661) (by decide +kernel) rfl), (xG_of (i := 662) (by decide +kernel) rfl), (xG_of (i := 663) (by decide +kernel) rfl), (xG_of (i := 51) (by decide +kernel) rfl), ⟨by decide +kernel, by decide +kernel, by decide +kernel⟩, rfl, rfl⟩
theorem kv_X5_whyNotChat : xYv yX5_whyNotChat cX5_whyNotChat 2 (some .int) 1 5 (RX5, TX5, 13) := ⟨(xG_of (i := 666) (by decide +kernel) rfl), (xG_of (i := 23) (by decide +kernel) rfl), (xG_of (i := 667) (by decide +kernel) rfl), (xG_of (i := 51) (by decide +kernel) rfl), ⟨by decide +kernel, by decide +kernel, by decide +kernel⟩, rfl, rfl⟩
theorem kv_X5_speakers : xYv yX5_speakers cX5_speakers 3 (some .int) 0 5 (RX5, TX5, 13) := ⟨(xG_of (i := 670) (by decide +kernel) rfl), (xG_of (i := 24) (by decide +kernel) rfl), (xG_of (i := 671) (by decide +kernel) rfl), (xG_of (i := 51) (by decide +kernel) rfl), ⟨by decide +kernel, by decide +kernel, by decide +kernel⟩, rfl, rfl⟩
theorem kv_X5_chats : xYv yX5_chats cX5_chats 8 (some .int) 1 5 (RX5, TX5, 13) := ⟨(xG_of (i := 674) (by decide +kernel) rfl), (xG_of (i := 25) (by decide +kernel) rfl), (xG_of (i := 675) (by decide +kernel) rfl), (xG_of (i := 51) (by decide +kernel) rfl), ⟨by decide +kernel, by decide +kernel, by decide +kernel⟩, rfl, rfl⟩
theorem kv_X5_speakerAt : xYv yX5_speakerAt cX5_speakerAt 6 (some .int) 2 5 (RX5, TX5, 13) := ⟨(xG_of (i := 678) (by decide +kernel) rfl), (xG_of (i := 26) (by decide +kernel) rfl), (xG_of (i := 679) (by decide +kernel) rfl), (xG_of (i := 51) (by decide +kernel) rfl), ⟨by decide +kernel, by decide +kernel, by decide +kernel⟩, rfl, rfl⟩
theorem kv_X5_age : xYv yX5_age cX5_age 4 (some .int) 1 5 (RX5, TX5, 13) := ⟨(xG_of (i := 681) (by decide +kernel) rfl), (xG_of (i := 682) (by decide +kernel) rfl), (xG_of (i := 683) (by decide +kernel) rfl), (xG_of (i := 51) (by decide +kernel) rfl), ⟨by decide +kernel, by decide +kernel, by decide +kernel⟩, rfl, rfl⟩
theorem kv_X5_passesYear : xYv yX5_passesYear cX5_passesYear 2 none 0 5 (RX5, TX5, 13) := ⟨(xG_of (i := 686) (by decide +kernel) rfl), (xG_of (i := 27) (by decide +kernel) rfl), (xG_of (i := 687) (by decide +kernel) rfl), (xG_of (i := 51) (by decide +kernel) rfl), ⟨by decide +kernel, by decide +kernel, by decide +kernel⟩, rfl, rfl⟩
theorem kv_X5_isBorn : xYv yX5_isBorn cX5_isBorn 5 none 1 5 (RX5, TX5, 13) := ⟨(xG_of (i := 690) (by decide +kernel) rfl), (xG_of (i := 28) (by decide +kernel) rfl), (xG_of (i := 691) (by decide +kernel) rfl), (xG_of (i := 51) (by decide +kernel) rfl), ⟨by decide +kernel, by decide +kernel, by decide +kernel⟩, rfl, rfl⟩
theorem kv_X5_teacherOf : xYv yX5_teacherOf cX5_teacherOf 5 (some .int) 1 5 (RX5, TX5, 13) := ⟨(xG_of (i := 694) (by decide +kernel) rfl), (xG_of (i := 29) (by decide +kernel) rfl), (xG_of (i := 695) (by decide +kernel) rfl), (xG_of (i := 51) (by decide +kernel) rfl), ⟨by decide +kernel, by decide +kernel, by decide +kernel⟩, rfl, rfl⟩
theorem kv_X5_come : xYv yX5_come cX5_come 2 (some .int) 0 5 (RX5, TX5, 13) := ⟨(xG_of (i := 697) (by decide +kernel) rfl), (xG_of (i := 698) (by decide +kernel) rfl), (xG_of (i := 699) (by decide +kernel) rfl), (xG_of (i := 51) (by decide +kernel) rfl), ⟨by decide +kernel, by decide +kernel, by decide +kernel⟩, rfl, rfl⟩
theorem kv_X5_go : xYv yX5_go cX5_go 3 (some .int) 1 5 (RX5, TX5, 13) := ⟨(xG_of (i := 701) (by decide +kernel) rfl), (xG_of (i := 702) (by decide +kernel) rfl), (xG_of (i := 703) (by decide +kernel) rfl), (xG_of (i := 51) (by decide +kernel) rfl), ⟨by decide +kernel, by decide +kernel, by decide +kernel⟩, rfl, rfl⟩
theorem kv_X5_set : xYv yX5_set cX5_set 5 (some .int) 2 5 (RX5, TX5, 13) := ⟨(xG_of (i := 705) (by decide +kernel) rfl), (xG_of (i := 706) (by decide +kernel) rfl), (xG_of (i := 707) (by decide +kernel) rfl), (xG_of (i := 51) (by decide +kernel) rfl), ⟨by decide +kernel, by decide +kernel, by decide +kernel⟩, rfl, rfl⟩
theorem ks_X5_isSetting : xYs yX5_isSetting cX5_isSetting 1 (some .boolean) 1 := ⟨(xG_of (i := 709) (by decide +kernel) rfl), (xG_of (i := 710) (by decide +kernel) rfl), (xG_of (i := 51) (by decide +kernel) rfl), ⟨by decide +kernel, by decide +kernel, by decide +kernel⟩⟩
theorem kv_X5_setSeed : xYv yX5_setSeed cX5_setSeed 3 (some .int) 1 5 (RX5, TX5, 13) := ⟨(xG_of (i := 712) (by decide +kernel) rfl), (xG_of (i := 713) (by decide +kernel) rfl), (xG_of (i := 714) (by decide +kernel) rfl), (xG_of (i := 51) (by decide +kernel) rfl), ⟨by decide +kernel, by decide +kernel, by decide +kernel⟩, rfl, rfl⟩
theorem kv_X5_teach : xYv yX5_teach cX5_teach 6 (some .int) 4 5 (RX5, TX5, 13) := ⟨(xG_of (i := 717) (by decide +kernel) rfl), (xG_of (i := 718) (by decide +kernel) rfl), (xG_of (i := 719) (by decide +kernel) rfl), (xG_of (i := 51) (by decide +kernel) rfl), ⟨by decide +kernel, by decide +kernel, by decide +kernel⟩, rfl, rfl⟩
theorem ks_X5_isWord : xYs yX5_isWord cX5_isWord 1 (some .boolean) 1 := ⟨(xG_of (i := 721) (by decide +kernel) rfl), (xG_of (i := 722) (by decide +kernel) rfl), (xG_of (i := 51) (by decide +kernel) rfl), ⟨by decide +kernel, by decide +kernel, by decide +kernel⟩⟩
theorem kv_X5_setAge : xYv yX5_setAge cX5_setAge 4 (some .int) 2 5 (RX5, TX5, 13) := ⟨(xG_of (i := 724) (by decide +kernel) rfl), (xG_of (i := 725) (by decide +kernel) rfl), (xG_of (i := 726) (by decide +kernel) rfl), (xG_of (i := 51) (by decide +kernel) rfl), ⟨by decide +kernel, by decide +kernel, by decide +kernel⟩, rfl, rfl⟩
theorem kv_X5_count : xYv yX5_count cX5_count 2 (some .int) 1 5 (RX5, TX5, 13) := ⟨(xG_of (i := 728) (by decide +kernel) rfl), (xG_of (i := 729) (by decide +kernel) rfl), (xG_of (i := 730) (by decide +kernel) rfl), (xG_of (i := 51) (by decide +kernel) rfl), ⟨by decide +kernel, by decide +kernel, by decide +kernel⟩, rfl, rfl⟩
theorem kv_X5_countOf : xYv yX5_countOf cX5_countOf 2 (some .int) 1 5 (RX5, TX5, 13) := ⟨(xG_of (i := 733) (by decide +kernel) rfl), (xG_of (i := 30) (by decide +kernel) rfl), (xG_of (i := 734) (by decide +kernel) rfl), (xG_of (i := 51) (by decide +kernel) rfl), ⟨by decide +kernel, by decide +kernel, by decide +kernel⟩, rfl, rfl⟩
theorem kv_X5_allWeights : xYv yX5_allWeights cX5_allWeights 3 (some .int) 0 5 (RX5, TX5, 13) := ⟨(xG_of (i := 737) (by decide +kernel) rfl), (xG_of (i := 31) (by decide +kernel) rfl), (xG_of (i := 738) (by decide +kernel) rfl), (xG_of (i := 51) (by decide +kernel) rfl), ⟨by decide +kernel, by decide +kernel, by decide +kernel⟩, rfl, rfl⟩
theorem kv_X5_setting : xYv yX5_setting cX5_setting 2 (some .int) 1 5 (RX5, TX5, 13) := ⟨(xG_of (i := 740) (by decide +kernel) rfl), (xG_of (i := 741) (by decide +kernel) rfl), (xG_of (i := 742) (by decide +kernel) rfl), (xG_of (i := 51) (by decide +kernel) rfl), ⟨by decide +kernel, by decide +kernel, by decide +kernel⟩, rfl, rfl⟩
theorem kv_X5_weight : xYv yX5_weight cX5_weight 4 (some .int) 3 5 (RX5, TX5, 13) := ⟨(xG_of (i := 744) (by decide +kernel) rfl), (xG_of (i := 745) (by decide +kernel) rfl), (xG_of (i := 746) (by decide +kernel) rfl), (xG_of (i := 51) (by decide +kernel) rfl), ⟨by decide +kernel, by decide +kernel, by decide +kernel⟩, rfl, rfl⟩
theorem kv_X5_speaker : xYv yX5_speaker cX5_speaker 3 (some .int) 2 5 (RX5, TX5, 13) := ⟨(xG_of (i := 748) (by decide +kernel) rfl), (xG_of (i := 749) (by decide +kernel) rfl), (xG_of (i := 750) (by decide +kernel) rfl), (xG_of (i := 51) (by decide +kernel) rfl), ⟨by decide +kernel, by decide +kernel, by decide +kernel⟩, rfl, rfl⟩
theorem kv_X5_ofSpeaker : xYv yX5_ofSpeaker cX5_ofSpeaker 3 (some .int) 2 5 (RX5, TX5, 13) := ⟨(xG_of (i := 753) (by decide +kernel) rfl), (xG_of (i := 32) (by decide +kernel) rfl), (xG_of (i := 754) (by decide +kernel) rfl), (xG_of (i := 51) (by decide +kernel) rfl), ⟨by decide +kernel, by decide +kernel, by decide +kernel⟩, rfl, rfl⟩
theorem kv_X5_wordsOf : xYv yX5_wordsOf cX5_wordsOf 4 (some .int) 1 5 (RX5, TX5, 13) := ⟨(xG_of (i := 757) (by decide +kernel) rfl), (xG_of (i := 33) (by decide +kernel) rfl), (xG_of (i := 758) (by decide +kernel) rfl), (xG_of (i := 51) (by decide +kernel) rfl), ⟨by decide +kernel, by decide +kernel, by decide +kernel⟩, rfl, rfl⟩
theorem kv_X5_confusions : xYv yX5_confusions cX5_confusions 5 (some .int) 1 5 (RX5, TX5, 13) := ⟨(xG_of (i := 761) (by decide +kernel) rfl), (xG_of (i := 34) (by decide +kernel) rfl), (xG_of (i := 762) (by decide +kernel) rfl), (xG_of (i := 51) (by decide +kernel) rfl), ⟨by decide +kernel, by decide +kernel, by decide +kernel⟩, rfl, rfl⟩
theorem kv_X5_wordOf : xYv yX5_wordOf cX5_wordOf 3 (some .int) 2 5 (RX5, TX5, 13) := ⟨(xG_of (i := 764) (by decide +kernel) rfl), (xG_of (i := 765) (by decide +kernel) rfl), (xG_of (i := 766) (by decide +kernel) rfl), (xG_of (i := 51) (by decide +kernel) rfl), ⟨by decide +kernel, by decide +kernel, by decide +kernel⟩, rfl, rfl⟩
theorem kv_X5_hears : xYv yX5_hears cX5_hears 3 (some .int) 2 5 (RX5, TX5, 13) := ⟨(xG_of (i := 768) (by decide +kernel) rfl), (xG_of (i := 769) (by decide +kernel) rfl), (xG_of (i := 770) (by decide +kernel) rfl), (xG_of (i := 51) (by decide +kernel) rfl), ⟨by decide +kernel, by decide +kernel, by decide +kernel⟩, rfl, rfl⟩
theorem kv_X5_gesture : xYv yX5_gesture cX5_gesture 5 (some .int) 2 5 (RX5, TX5, 13) := ⟨(xG_of (i := 772) (by decide +kernel) rfl), (xG_of (i := 773) (by decide +kernel) rfl), (xG_of (i := 774) (by decide +kernel) rfl), (xG_of (i := 51) (by decide +kernel) rfl), ⟨by decide +kernel, by decide +kernel, by decide +kernel⟩, rfl, rfl⟩
theorem kv_X5_agreement : xYv yX5_agreement cX5_agreement 4 (some .int) 3 5 (RX5, TX5, 13) := ⟨(xG_of (i := 776) (by decide +kernel) rfl), (xG_of (i := 777) (by decide +kernel) rfl), (xG_of (i := 778) (by decide +kernel) rfl), (xG_of (i := 51) (by decide +kernel) rfl), ⟨by decide +kernel, by decide +kernel, by decide +kernel⟩, rfl, rfl⟩
theorem kv_X5_agreements : xYv yX5_agreements cX5_agreements 5 (some .int) 2 5 (RX5, TX5, 13) := ⟨(xG_of (i := 781) (by decide +kernel) rfl), (xG_of (i := 35) (by decide +kernel) rfl), (xG_of (i := 782) (by decide +kernel) rfl), (xG_of (i := 51) (by decide +kernel) rfl), ⟨by decide +kernel, by decide +kernel, by decide +kernel⟩, rfl, rfl⟩
theorem kv_X5_understanding : xYv yX5_understanding cX5_understanding 3 (some .int) 2 5 (RX5, TX5, 13) := ⟨(xG_of (i := 784) (by decide +kernel) rfl), (xG_of (i := 785) (by decide +kernel) rfl), (xG_of (i := 786) (by decide +kernel) rfl), (xG_of (i := 51) (by decide +kernel) rfl), ⟨by decide +kernel, by decide +kernel, by decide +kernel⟩, rfl, rfl⟩
theorem kv_X5_understood : xYv yX5_understood cX5_understood 5 (some .int) 2 5 (RX5, TX5, 13) := ⟨(xG_of (i := 789) (by decide +kernel) rfl), (xG_of (i := 36) (by decide +kernel) rfl), (xG_of (i := 790) (by decide +kernel) rfl), (xG_of (i := 51) (by decide +kernel) rfl), ⟨by decide +kernel, by decide +kernel, by decide +kernel⟩, rfl, rfl⟩
theorem kv_X5_common : xYv yX5_common cX5_common 2 (some .int) 1 5 (RX5, TX5, 13) := ⟨(xG_of (i := 792) (by decide +kernel) rfl), (xG_of (i := 793) (by decide +kernel) rfl), (xG_of (i := 794) (by decide +kernel) rfl), (xG_of (i := 51) (by decide +kernel) rfl), ⟨by decide +kernel, by decide +kernel, by decide +kernel⟩, rfl, rfl⟩
theorem kv_X5_commonOf : xYv yX5_commonOf cX5_commonOf 7 (some .int) 1 5 (RX5, TX5, 13) := ⟨(xG_of (i := 797) (by decide +kernel) rfl), (xG_of (i := 37) (by decide +kernel) rfl), (xG_of (i := 798) (by decide +kernel) rfl), (xG_of (i := 51) (by decide +kernel) rfl), ⟨by decide +kernel, by decide +kernel, by decide +kernel⟩, rfl, rfl⟩
theorem kv_X5_ifMet : xYv yX5_ifMet cX5_ifMet 8 (some .int) 4 5 (RX5, TX5, 13) := ⟨(xG_of (i := 800) (by decide +kernel) rfl), (xG_of (i := 801) (by decide +kernel) rfl), (xG_of (i := 802) (by decide +kernel) rfl), (xG_of (i := 51) (by decide +kernel) rfl), ⟨by decide +kernel, by decide +kernel, by decide +kernel⟩, rfl, rfl⟩
theorem kv_X5_ifChat : xYv yX5_ifChat cX5_ifChat 4 (some .int) 1 5 (RX5, TX5, 13) := ⟨(xG_of (i := 804) (by decide +kernel) rfl), (xG_of (i := 805) (by decide +kernel) rfl), (xG_of (i := 806) (by decide +kernel) rfl), (xG_of (i := 51) (by decide +kernel) rfl), ⟨by decide +kernel, by decide +kernel, by decide +kernel⟩, rfl, rfl⟩
theorem kv_X5_bestSayer : xYv yX5_bestSayer cX5_bestSayer 4 (some .int) 1 5 (RX5, TX5, 13) := ⟨(xG_of (i := 808) (by decide +kernel) rfl), (xG_of (i := 809) (by decide +kernel) rfl), (xG_of (i := 810) (by decide +kernel) rfl), (xG_of (i := 51) (by decide +kernel) rfl), ⟨by decide +kernel, by decide +kernel, by decide +kernel⟩, rfl, rfl⟩
theorem kv_X5_type : xYv yX5_type cX5_type 2 (some .int) 1 5 (RX5, TX5, 13) := ⟨(xG_of (i := 812) (by decide +kernel) rfl), (xG_of (i := 813) (by decide +kernel) rfl), (xG_of (i := 814) (by decide +kernel) rfl), (xG_of (i := 51) (by decide +kernel) rfl), ⟨by decide +kernel, by decide +kernel, by decide +kernel⟩, rfl, rfl⟩
theorem kv_X5_clearText : xYv yX5_clearText cX5_clearText 2 (some .int) 0 5 (RX5, TX5, 13) := ⟨(xG_of (i := 816) (by decide +kernel) rfl), (xG_of (i := 817) (by decide +kernel) rfl), (xG_of (i := 818) (by decide +kernel) rfl), (xG_of (i := 51) (by decide +kernel) rfl), ⟨by decide +kernel, by decide +kernel, by decide +kernel⟩, rfl, rfl⟩
theorem kv_X5_syntaxError : xYv yX5_syntaxError cX5_syntaxError 1 (some .int) 0 5 (RX5, TX5, 13) := ⟨(xG_of (i := 820) (by decide +kernel) rfl), (xG_of (i := 821) (by decide +kernel) rfl), (xG_of (i := 822) (by decide +kernel) rfl), (xG_of (i := 51) (by decide +kernel) rfl), ⟨by decide +kernel, by decide +kernel, by decide +kernel⟩, rfl, rfl⟩
theorem kv_X5_findError : xYv yX5_findError cX5_findError 1 (some .int) 0 5 (RX5, TX5, 13) := ⟨(xG_of (i := 825) (by decide +kernel) rfl), (xG_of (i := 38) (by decide +kernel) rfl), (xG_of (i := 826) (by decide +kernel) rfl), (xG_of (i := 51) (by decide +kernel) rfl), ⟨by decide +kernel, by decide +kernel, by decide +kernel⟩, rfl, rfl⟩
theorem kv_X5_readsHabit : xYv yX5_readsHabit cX5_readsHabit 2 (some .boolean) 0 5 (RX5, TX5, 13) := ⟨(xG_of (i := 829) (by decide +kernel) rfl), (xG_of (i := 39) (by decide +kernel) rfl), (xG_of (i := 830) (by decide +kernel) rfl), (xG_of (i := 51) (by decide +kernel) rfl), ⟨by decide +kernel, by decide +kernel, by decide +kernel⟩, rfl, rfl⟩
theorem kv_X5_readsDigit : xYv yX5_readsDigit cX5_readsDigit 3 (some .boolean) 1 5 (RX5, TX5, 13) := ⟨(xG_of (i := 833) (by decide +kernel) rfl), (xG_of (i := 40) (by decide +kernel) rfl), (xG_of (i := 834) (by decide +kernel) rfl), (xG_of (i := 51) (by decide +kernel) rfl), ⟨by decide +kernel, by decide +kernel, by decide +kernel⟩, rfl, rfl⟩
theorem kv_X5_character : xYv yX5_character cX5_character 2 (some .int) 1 5 (RX5, TX5, 13) := ⟨(xG_of (i := 837) (by decide +kernel) rfl), (xG_of (i := 41) (by decide +kernel) rfl), (xG_of (i := 838) (by decide +kernel) rfl), (xG_of (i := 51) (by decide +kernel) rfl), ⟨by decide +kernel, by decide +kernel, by decide +kernel⟩, rfl, rfl⟩
theorem kv_X5_isNext : xYv yX5_isNext cX5_isNext 3 (some .boolean) 1 5 (RX5, TX5, 13) := ⟨(xG_of (i := 841) (by decide +kernel) rfl), (xG_of (i := 42) (by decide +kernel) rfl), (xG_of (i := 842) (by decide +kernel) rfl), (xG_of (i := 51) (by decide +kernel) rfl), ⟨by decide +kernel, by decide +kernel, by decide +kernel⟩, rfl, rfl⟩
theorem kv_X5_readsWord : xYv yX5_readsWord cX5_readsWord 3 (some .boolean) 0 5 (RX5, TX5, 13) := ⟨(xG_of (i := 845) (by decide +kernel) rfl), (xG_of (i := 43) (by decide +kernel) rfl), (xG_of (i := 846) (by decide +kernel) rfl), (xG_of (i := 51) (by decide +kernel) rfl), ⟨by decide +kernel, by decide +kernel, by decide +kernel⟩, rfl, rfl⟩
theorem kv_X5_isGesture : xYv yX5_isGesture cX5_isGesture 1 (some .boolean) 0 5 (RX5, TX5, 13) := ⟨(xG_of (i := 849) (by decide +kernel) rfl), (xG_of (i := 44) (by decide +kernel) rfl), (xG_of (i := 850) (by decide +kernel) rfl), (xG_of (i := 51) (by decide +kernel) rfl), ⟨by decide +kernel, by decide +kernel, by decide +kernel⟩, rfl, rfl⟩
theorem kv_X5_learn : xYv yX5_learn cX5_learn 3 (some .int) 0 5 (RX5, TX5, 13) := ⟨(xG_of (i := 852) (by decide +kernel) rfl), (xG_of (i := 853) (by decide +kernel) rfl), (xG_of (i := 854) (by decide +kernel) rfl), (xG_of (i := 51) (by decide +kernel) rfl), ⟨by decide +kernel, by decide +kernel, by decide +kernel⟩, rfl, rfl⟩
theorem kv_X5_undo : xYv yX5_undo cX5_undo 1 (some .int) 0 5 (RX5, TX5, 13) := ⟨(xG_of (i := 856) (by decide +kernel) rfl), (xG_of (i := 857) (by decide +kernel) rfl), (xG_of (i := 858) (by decide +kernel) rfl), (xG_of (i := 51) (by decide +kernel) rfl), ⟨by decide +kernel, by decide +kernel, by decide +kernel⟩, rfl, rfl⟩
theorem kv_X5_digest : xYv yX5_digest cX5_digest 5 (some .long) 0 5 (RX5, TX5, 13) := ⟨(xG_of (i := 860) (by decide +kernel) rfl), (xG_of (i := 861) (by decide +kernel) rfl), (xG_of (i := 862) (by decide +kernel) rfl), (xG_of (i := 51) (by decide +kernel) rfl), ⟨by decide +kernel, by decide +kernel, by decide +kernel⟩, rfl, rfl⟩
theorem kcl_L_7 : Cond.classLink RL 7 RX4 ∈ xG := (xG_of (i := 54) (by decide +kernel) rfl)
theorem kl_L_9 : Cond.methodLink RL 9 yX4_init ∈ xG := (xG_of (i := 56) (by decide +kernel) rfl)
theorem kl_X4_1 : Cond.methodLink RX4 1 objectInit ∈ xG := (xG_of (i := 59) (by decide +kernel) rfl)
theorem kcl_X4_7 : Cond.classLink RX4 7 RX3 ∈ xG := (xG_of (i := 62) (by decide +kernel) rfl)
theorem kl_X4_9 : Cond.methodLink RX4 9 yX3_init ∈ xG := (xG_of (i := 64) (by decide +kernel) rfl)
theorem kl_X3_3 : Cond.methodLink RX3 3 objectInit ∈ xG := (xG_of (i := 67) (by decide +kernel) rfl)
theorem kcl_X3_9 : Cond.classLink RX3 9 RX2 ∈ xG := (xG_of (i := 68) (by decide +kernel) rfl)
theorem ka_X2 : Cond.arrayOver (.object RX2) ∈ xGN := (xGN_of (i := 69) (by decide +kernel) rfl)
theorem kl_X3_17 : Cond.methodLink RX3 17 yX2_init ∈ xG := (xG_of (i := 71) (by decide +kernel) rfl)
theorem kl_X2_3 : Cond.methodLink RX2 3 objectInit ∈ xG := (xG_of (i := 74) (by decide +kernel) rfl)
theorem ka_int : Cond.arrayClass .int ∈ xG := (xG_of (i := 92) (by decide +kernel) rfl)
theorem kcl_X4_19 : Cond.classLink RX4 19 RX1 ∈ xG := (xG_of (i := 119) (by decide +kernel) rfl)
theorem kl_X4_21 : Cond.methodLink RX4 21 yX1_init ∈ xG := (xG_of (i := 121) (by decide +kernel) rfl)
theorem kl_X1_3 : Cond.methodLink RX1 3 objectInit ∈ xG := (xG_of (i := 124) (by decide +kernel) rfl)
theorem kcl_X1_9 : Cond.classLink RX1 9 RX3 ∈ xG := (xG_of (i := 125) (by decide +kernel) rfl)
theorem ka_X3 : Cond.arrayOver (.object RX3) ∈ xGN := (xGN_of (i := 126) (by decide +kernel) rfl)
theorem kl_X1_17 : Cond.methodLink RX1 17 yX3_init ∈ xG := (xG_of (i := 127) (by decide +kernel) rfl)
theorem kcl_X4_26 : Cond.classLink RX4 26 RX0 ∈ xG := (xG_of (i := 139) (by decide +kernel) rfl)
theorem kl_X4_28 : Cond.methodLink RX4 28 yX0_init ∈ xG := (xG_of (i := 141) (by decide +kernel) rfl)
theorem kl_X0_3 : Cond.methodLink RX0 3 objectInit ∈ xG := (xG_of (i := 144) (by decide +kernel) rfl)
theorem ka_char : Cond.arrayClass .char ∈ xG := (xG_of (i := 153) (by decide +kernel) rfl)
theorem kl_L_13 : xLk RL 13 yX4_come := Or.inl (xG_of (i := 167) (by decide +kernel) rfl)
theorem kl_X4_33 : xLk RX4 33 yX3_lowestFree := Or.inl (xG_of (i := 171) (by decide +kernel) rfl)
theorem kl_X4_37 : xLk RX4 37 yX1_keep := Or.inl (xG_of (i := 175) (by decide +kernel) rfl)
theorem kl_X1_22 : xLk RX1 22 yX4_isBelow := Or.inr ⟨"GesturePidgin", (xGN_of (i := 179) (by decide +kernel) rfl)⟩
theorem kl_X1_26 : xLk RX1 26 yX3_copyFrom := Or.inl (xG_of (i := 182) (by decide +kernel) rfl)
theorem kl_X3_29 : xLk RX3 29 yX2_copyFrom := Or.inl (xG_of (i := 186) (by decide +kernel) rfl)
theorem kl_X2_15 : Cond.methodLink RX2 15 arraycopyName ∈ xG := (xG_of (i := 190) (by decide +kernel) rfl)
theorem kl_X3_33 : Cond.methodLink RX3 33 arraycopyName ∈ xG := (xG_of (i := 193) (by decide +kernel) rfl)
theorem kl_X1_33 : Cond.methodLink RX1 33 Lib.Math.min.name ∈ xG := (xG_of (i := 194) (by decide +kernel) rfl)
theorem kl_X4_41 : xLk RX4 41 yX3_welcome := Or.inl (xG_of (i := 197) (by decide +kernel) rfl)
theorem kl_X3_51 : xLk RX3 51 yX4_isBelow := Or.inr ⟨"GesturePidgin", (xGN_of (i := 201) (by decide +kernel) rfl)⟩
theorem kl_X3_59 : xLk RX3 59 yX2_arrive := Or.inl (xG_of (i := 202) (by decide +kernel) rfl)
theorem kl_X2_32 : xLk RX2 32 yX2_beginLife := Or.inl (xG_of (i := 206) (by decide +kernel) rfl)
theorem kl_X2_36 : xLk RX2 36 yX2_weightOf := Or.inl (xG_of (i := 210) (by decide +kernel) rfl)
theorem kl_X2_44 : xLk RX2 44 yX4_isMeaning := Or.inr ⟨"GesturePidgin", (xGN_of (i := 214) (by decide +kernel) rfl)⟩
theorem kl_X2_48 : xLk RX2 48 yX4_isWord := Or.inr ⟨"GesturePidgin", (xGN_of (i := 217) (by decide +kernel) rfl)⟩
theorem kl_X2_40 : xLk RX2 40 yX2_putWeight := Or.inl (xG_of (i := 220) (by decide +kernel) rfl)
theorem kl_X2_51 : Cond.methodLink RX2 51 Lib.Math.min.name ∈ xG := (xG_of (i := 224) (by decide +kernel) rfl)
theorem kl_X2_56 : Cond.methodLink RX2 56 Lib.Math.max.name ∈ xG := (xG_of (i := 225) (by decide +kernel) rfl)
theorem kl_L_18 : xLk RL 18 yX4_go := Or.inl (xG_of (i := 228) (by decide +kernel) rfl)
theorem kl_X4_45 : xLk RX4 45 yX3_find := Or.inl (xG_of (i := 232) (by decide +kernel) rfl)
theorem kl_X4_49 : xLk RX4 49 yX2_leave := Or.inl (xG_of (i := 236) (by decide +kernel) rfl)
theorem kl_X4_54 : xLk RX4 54 yX3_countSpeakers := Or.inl (xG_of (i := 240) (by decide +kernel) rfl)
theorem kl_L_23 : xLk RL 23 yX4_set := Or.inl (xG_of (i := 244) (by decide +kernel) rfl)
theorem kl_X4_57 : xLk RX4 57 yX4_isBelow := Or.inl (xG_of (i := 248) (by decide +kernel) rfl)
theorem kl_X4_61 : xLk RX4 61 yX4_leastOf := Or.inl (xG_of (i := 249) (by decide +kernel) rfl)
theorem kl_X4_65 : xLk RX4 65 yX4_mostOf := Or.inl (xG_of (i := 252) (by decide +kernel) rfl)
theorem kl_X4_68 : xLk RX4 68 yX3_settingAt := Or.inl (xG_of (i := 255) (by decide +kernel) rfl)
theorem kl_X4_71 : xLk RX4 71 yX3_putSetting := Or.inl (xG_of (i := 259) (by decide +kernel) rfl)
theorem kl_L_28 : xLk RL 28 yX4_setSeed := Or.inl (xG_of (i := 263) (by decide +kernel) rfl)
theorem kk_X4_75 : Cond.constant RX4 75 (65535) ∈ xG := (xG_of (i := 267) (by decide +kernel) rfl)
theorem kl_L_32 : xLk RL 32 yX4_teach := Or.inl (xG_of (i := 268) (by decide +kernel) rfl)
theorem kl_X4_80 : xLk RX4 80 yX4_isMeaning := Or.inl (xG_of (i := 272) (by decide +kernel) rfl)
theorem kl_X4_84 : xLk RX4 84 yX4_isWord := Or.inl (xG_of (i := 273) (by decide +kernel) rfl)
theorem kl_X4_87 : xLk RX4 87 yX2_weightOf := Or.inl (xG_of (i := 274) (by decide +kernel) rfl)
theorem kl_X4_91 : xLk RX4 91 yX2_putWeight := Or.inl (xG_of (i := 275) (by decide +kernel) rfl)
theorem kl_L_37 : xLk RL 37 yX4_setAge := Or.inl (xG_of (i := 276) (by decide +kernel) rfl)
theorem kl_L_41 : xLk RL 41 yX4_meet := Or.inl (xG_of (i := 280) (by decide +kernel) rfl)
theorem kl_X4_98 : xLk RX4 98 yX3_holdMeeting := Or.inl (xG_of (i := 284) (by decide +kernel) rfl)
theorem kl_X3_63 : xLk RX3 63 yX2_wordFor := Or.inl (xG_of (i := 288) (by decide +kernel) rfl)
theorem kl_X3_67 : xLk RX3 67 yX3_draw := Or.inl (xG_of (i := 292) (by decide +kernel) rfl)
theorem kk_X3_62 : Cond.constant RX3 62 (65536) ∈ xG := (xG_of (i := 296) (by decide +kernel) rfl)
theorem kl_X3_70 : xLk RX3 70 yX2_meaningOf := Or.inl (xG_of (i := 297) (by decide +kernel) rfl)
theorem kl_X3_74 : xLk RX3 74 yX2_prefer := Or.inl (xG_of (i := 301) (by decide +kernel) rfl)
theorem kl_X2_59 : xLk RX2 59 yX2_learnsWith := Or.inl (xG_of (i := 305) (by decide +kernel) rfl)
theorem kl_X2_63 : xLk RX2 63 yX2_changeWeight := Or.inl (xG_of (i := 309) (by decide +kernel) rfl)
theorem kl_X3_78 : xLk RX3 78 yX2_forgetOtherMeanings := Or.inl (xG_of (i := 313) (by decide +kernel) rfl)
theorem kl_X3_82 : xLk RX3 82 yX2_changeWeight := Or.inl (xG_of (i := 317) (by decide +kernel) rfl)
theorem kl_L_46 : xLk RL 46 yX4_chat := Or.inl (xG_of (i := 318) (by decide +kernel) rfl)
theorem kl_X4_102 : xLk RX4 102 yX4_refusalOfChat := Or.inl (xG_of (i := 322) (by decide +kernel) rfl)
theorem kl_X4_105 : xLk RX4 105 yX3_holdChats := Or.inl (xG_of (i := 326) (by decide +kernel) rfl)
theorem kl_X3_85 : xLk RX3 85 yX3_countSpeakers := Or.inl (xG_of (i := 330) (by decide +kernel) rfl)
theorem kl_X3_89 : xLk RX3 89 yX3_numberInOrder := Or.inl (xG_of (i := 331) (by decide +kernel) rfl)
theorem kl_X3_93 : xLk RX3 93 yX3_find := Or.inl (xG_of (i := 335) (by decide +kernel) rfl)
theorem kl_X3_97 : xLk RX3 97 yX3_holdMeeting := Or.inl (xG_of (i := 336) (by decide +kernel) rfl)
theorem kl_L_50 : xLk RL 50 yX4_age := Or.inl (xG_of (i := 337) (by decide +kernel) rfl)
theorem kl_X4_108 : xLk RX4 108 yX3_passYears := Or.inl (xG_of (i := 341) (by decide +kernel) rfl)
theorem kl_X3_101 : xLk RX3 101 yX3_passYear := Or.inl (xG_of (i := 345) (by decide +kernel) rfl)
theorem kl_X3_105 : xLk RX3 105 yX3_teacherFor := Or.inl (xG_of (i := 349) (by decide +kernel) rfl)
theorem kl_X3_108 : xLk RX3 108 yX2_beginLife := Or.inl (xG_of (i := 353) (by decide +kernel) rfl)
theorem kl_L_54 : xLk RL 54 yX4_count := Or.inl (xG_of (i := 354) (by decide +kernel) rfl)
theorem kl_X4_111 : xLk RX4 111 yX3_numberOf := Or.inl (xG_of (i := 358) (by decide +kernel) rfl)
theorem kl_X3_112 : xLk RX3 112 yX3_sumOfWeights := Or.inl (xG_of (i := 362) (by decide +kernel) rfl)
theorem kl_X3_124 : xLk RX3 124 yX2_sumOfWeights := Or.inl (xG_of (i := 366) (by decide +kernel) rfl)
theorem kl_L_58 : xLk RL 58 yX4_setting := Or.inl (xG_of (i := 370) (by decide +kernel) rfl)
theorem kl_L_62 : xLk RL 62 yX4_weight := Or.inl (xG_of (i := 374) (by decide +kernel) rfl)
theorem kl_L_66 : xLk RL 66 yX4_speaker := Or.inl (xG_of (i := 378) (by decide +kernel) rfl)
theorem kl_X4_114 : xLk RX4 114 yX3_numberOfSpeaker := Or.inl (xG_of (i := 382) (by decide +kernel) rfl)
theorem kl_X3_115 : xLk RX3 115 yX2_learnsWith := Or.inl (xG_of (i := 386) (by decide +kernel) rfl)
theorem kl_X3_118 : xLk RX3 118 yX2_countWords := Or.inl (xG_of (i := 387) (by decide +kernel) rfl)
theorem kl_X2_66 : xLk RX2 66 yX2_wordFor := Or.inl (xG_of (i := 391) (by decide +kernel) rfl)
theorem kl_X3_121 : xLk RX3 121 yX2_countConfusions := Or.inl (xG_of (i := 392) (by decide +kernel) rfl)
theorem kl_L_70 : xLk RL 70 yX4_wordOf := Or.inl (xG_of (i := 396) (by decide +kernel) rfl)
theorem kl_X4_118 : xLk RX4 118 yX2_wordFor := Or.inl (xG_of (i := 400) (by decide +kernel) rfl)
theorem kl_L_74 : xLk RL 74 yX4_hears := Or.inl (xG_of (i := 401) (by decide +kernel) rfl)
theorem kl_X4_121 : xLk RX4 121 yX2_meaningOf := Or.inl (xG_of (i := 405) (by decide +kernel) rfl)
theorem kl_L_78 : xLk RL 78 yX4_gesture := Or.inl (xG_of (i := 406) (by decide +kernel) rfl)
theorem kl_X4_124 : xLk RX4 124 yX4_lengthOfWord := Or.inl (xG_of (i := 410) (by decide +kernel) rfl)
theorem kl_X4_127 : xLk RX4 127 yX4_codeOfWord := Or.inl (xG_of (i := 413) (by decide +kernel) rfl)
theorem kl_L_82 : xLk RL 82 yX4_agreement := Or.inl (xG_of (i := 416) (by decide +kernel) rfl)
theorem kl_X4_130 : xLk RX4 130 yX4_agreementByMeanings := Or.inl (xG_of (i := 420) (by decide +kernel) rfl)
theorem kl_X4_134 : xLk RX4 134 yX4_agreementByWords := Or.inl (xG_of (i := 423) (by decide +kernel) rfl)
theorem kl_L_86 : xLk RL 86 yX4_understanding := Or.inl (xG_of (i := 426) (by decide +kernel) rfl)
theorem kl_X4_137 : xLk RX4 137 yX4_understandingOf := Or.inl (xG_of (i := 430) (by decide +kernel) rfl)
theorem kl_L_90 : xLk RL 90 yX4_common := Or.inl (xG_of (i := 433) (by decide +kernel) rfl)
theorem kl_X4_140 : xLk RX4 140 yX3_commonWord := Or.inl (xG_of (i := 437) (by decide +kernel) rfl)
theorem kl_X3_125 : xLk RX3 125 yX3_countUsers := Or.inl (xG_of (i := 441) (by decide +kernel) rfl)
theorem kl_X3_129 : xLk RX3 129 yX4_isWord := Or.inr ⟨"GesturePidgin", (xGN_of (i := 445) (by decide +kernel) rfl)⟩
theorem kl_L_94 : xLk RL 94 yX4_ifMet := Or.inl (xG_of (i := 446) (by decide +kernel) rfl)
theorem kl_X4_143 : xLk RX4 143 yX3_copyFrom := Or.inl (xG_of (i := 450) (by decide +kernel) rfl)
theorem kl_L_98 : xLk RL 98 yX4_ifChat := Or.inl (xG_of (i := 451) (by decide +kernel) rfl)
theorem kl_L_102 : xLk RL 102 yX4_bestSayer := Or.inl (xG_of (i := 455) (by decide +kernel) rfl)
theorem kl_L_106 : xLk RL 106 yX4_type := Or.inl (xG_of (i := 459) (by decide +kernel) rfl)
theorem kl_X4_146 : xLk RX4 146 yX0_append := Or.inl (xG_of (i := 463) (by decide +kernel) rfl)
theorem kl_X0_19 : xLk RX0 19 yX4_isBelow := Or.inr ⟨"GesturePidgin", (xGN_of (i := 467) (by decide +kernel) rfl)⟩
theorem kl_L_110 : xLk RL 110 yX4_clearText := Or.inl (xG_of (i := 468) (by decide +kernel) rfl)
theorem kl_L_114 : xLk RL 114 yX4_syntaxError := Or.inl (xG_of (i := 472) (by decide +kernel) rfl)
theorem kl_X4_153 : xLk RX4 153 yX0_firstError := Or.inl (xG_of (i := 476) (by decide +kernel) rfl)
theorem kl_X0_23 : xLk RX0 23 yX0_signAt := Or.inl (xG_of (i := 480) (by decide +kernel) rfl)
theorem kl_X0_27 : xLk RX0 27 yX0_expectedAfter := Or.inl (xG_of (i := 484) (by decide +kernel) rfl)
theorem kl_X0_31 : xLk RX0 31 yX0_isGesture := Or.inl (xG_of (i := 487) (by decide +kernel) rfl)
theorem kl_X0_35 : xLk RX0 35 yX0_afterStar := Or.inl (xG_of (i := 490) (by decide +kernel) rfl)
theorem kl_X0_38 : xLk RX0 38 yX0_isDigit := Or.inl (xG_of (i := 493) (by decide +kernel) rfl)
theorem kl_X0_41 : xLk RX0 41 yX0_afterEnd := Or.inl (xG_of (i := 496) (by decide +kernel) rfl)
theorem kl_L_118 : xLk RL 118 yX4_learn := Or.inl (xG_of (i := 499) (by decide +kernel) rfl)
theorem kl_X4_156 : xLk RX4 156 yX0_giveHabits := Or.inl (xG_of (i := 503) (by decide +kernel) rfl)
theorem kl_X0_44 : xLk RX0 44 yX0_digitAt := Or.inl (xG_of (i := 507) (by decide +kernel) rfl)
theorem kl_X0_47 : xLk RX0 47 yX3_find := Or.inl (xG_of (i := 511) (by decide +kernel) rfl)
theorem kl_X0_53 : xLk RX0 53 yX0_giveHabit := Or.inl (xG_of (i := 512) (by decide +kernel) rfl)
theorem kl_X0_57 : xLk RX0 57 yX4_wordOfCode := Or.inr ⟨"GesturePidgin", (xGN_of (i := 516) (by decide +kernel) rfl)⟩
theorem kl_X0_60 : xLk RX0 60 yX2_putWeight := Or.inl (xG_of (i := 519) (by decide +kernel) rfl)
theorem kl_L_122 : xLk RL 122 yX4_undo := Or.inl (xG_of (i := 520) (by decide +kernel) rfl)
theorem kl_X4_160 : xLk RX4 160 yX1_restore := Or.inl (xG_of (i := 524) (by decide +kernel) rfl)
theorem kl_L_126 : xLk RL 126 yX4_digest := Or.inl (xG_of (i := 528) (by decide +kernel) rfl)
theorem kk_X4_167 : Cond.constantLong RX4 167 (473) ∈ xG := (xG_of (i := 532) (by decide +kernel) rfl)
theorem kl_X4_169 : xLk RX4 169 yX4_mixed := Or.inl (xG_of (i := 533) (by decide +kernel) rfl)
theorem kk_X4_179 : Cond.constantLong RX4 179 (31) ∈ xG := (xG_of (i := 536) (by decide +kernel) rfl)
theorem kl_X4_173 : xLk RX4 173 yX4_withSpeaker := Or.inl (xG_of (i := 537) (by decide +kernel) rfl)
theorem kl_X4_176 : xLk RX4 176 yX4_withPairsOf := Or.inl (xG_of (i := 541) (by decide +kernel) rfl)
theorem kcl_L_10 : Cond.classLink RL 10 RX5 ∈ xG := (xG_of (i := 545) (by decide +kernel) rfl)
theorem kl_L_12 : Cond.methodLink RL 12 yX5_init ∈ xG := (xG_of (i := 547) (by decide +kernel) rfl)
theorem kl_X5_1 : Cond.methodLink RX5 1 objectInit ∈ xG := (xG_of (i := 550) (by decide +kernel) rfl)
theorem kl_L_45 : xLk RL 45 yX5_meet := Or.inl (xG_of (i := 591) (by decide +kernel) rfl)
theorem kl_X5_83 : xLk RX5 83 yX5_whyNotMet := Or.inl (xG_of (i := 595) (by decide +kernel) rfl)
theorem kl_X5_45 : xLk RX5 45 yX5_isSpeaker := Or.inl (xG_of (i := 599) (by decide +kernel) rfl)
theorem kl_X5_30 : xLk RX5 30 yX5_within := Or.inl (xG_of (i := 603) (by decide +kernel) rfl)
theorem kl_X5_34 : xLk RX5 34 yX5_part := Or.inl (xG_of (i := 606) (by decide +kernel) rfl)
theorem kl_X5_80 : xLk RX5 80 yX5_isMeaning := Or.inl (xG_of (i := 610) (by decide +kernel) rfl)
theorem kl_X5_86 : xLk RX5 86 yX5_record := Or.inl (xG_of (i := 613) (by decide +kernel) rfl)
theorem kl_X5_26 : xLk RX5 26 yX5_copies := Or.inl (xG_of (i := 617) (by decide +kernel) rfl)
theorem kl_X5_89 : xLk RX5 89 yX5_meets := Or.inl (xG_of (i := 620) (by decide +kernel) rfl)
theorem kl_X5_58 : xLk RX5 58 yX5_wordFor := Or.inl (xG_of (i := 624) (by decide +kernel) rfl)
theorem kl_X5_42 : xLk RX5 42 yX5_weightOf := Or.inl (xG_of (i := 628) (by decide +kernel) rfl)
theorem kl_X5_38 : xLk RX5 38 yX5_weightAt := Or.inl (xG_of (i := 632) (by decide +kernel) rfl)
theorem kl_X5_64 : xLk RX5 64 yX5_draws := Or.inl (xG_of (i := 635) (by decide +kernel) rfl)
theorem kk_X5_49 : Cond.constant RX5 49 (65536) ∈ xG := (xG_of (i := 639) (by decide +kernel) rfl)
theorem kl_X5_67 : xLk RX5 67 yX5_heardAs := Or.inl (xG_of (i := 640) (by decide +kernel) rfl)
theorem kl_X5_73 : xLk RX5 73 yX5_strengthens := Or.inl (xG_of (i := 644) (by decide +kernel) rfl)
theorem kl_X5_50 : xLk RX5 50 yX5_learns := Or.inl (xG_of (i := 648) (by decide +kernel) rfl)
theorem kl_X5_54 : xLk RX5 54 yX5_changes := Or.inl (xG_of (i := 652) (by decide +kernel) rfl)
theorem kl_X5_77 : xLk RX5 77 yX5_setPart := Or.inl (xG_of (i := 656) (by decide +kernel) rfl)
theorem kl_L_49 : xLk RL 49 yX5_chat := Or.inl (xG_of (i := 660) (by decide +kernel) rfl)
theorem kl_X5_99 : xLk RX5 99 yX5_whyNotChat := Or.inl (xG_of (i := 664) (by decide +kernel) rfl)
theorem kl_X5_92 : xLk RX5 92 yX5_speakers := Or.inl (xG_of (i := 668) (by decide +kernel) rfl)
theorem kl_X5_102 : xLk RX5 102 yX5_chats := Or.inl (xG_of (i := 672) (by decide +kernel) rfl)
theorem kl_X5_96 : xLk RX5 96 yX5_speakerAt := Or.inl (xG_of (i := 676) (by decide +kernel) rfl)
theorem kl_L_53 : xLk RL 53 yX5_age := Or.inl (xG_of (i := 680) (by decide +kernel) rfl)
theorem kl_X5_112 : xLk RX5 112 yX5_passesYear := Or.inl (xG_of (i := 684) (by decide +kernel) rfl)
theorem kl_X5_108 : xLk RX5 108 yX5_isBorn := Or.inl (xG_of (i := 688) (by decide +kernel) rfl)
theorem kl_X5_105 : xLk RX5 105 yX5_teacherOf := Or.inl (xG_of (i := 692) (by decide +kernel) rfl)
theorem kl_L_17 : xLk RL 17 yX5_come := Or.inl (xG_of (i := 696) (by decide +kernel) rfl)
theorem kl_L_22 : xLk RL 22 yX5_go := Or.inl (xG_of (i := 700) (by decide +kernel) rfl)
theorem kl_L_27 : xLk RL 27 yX5_set := Or.inl (xG_of (i := 704) (by decide +kernel) rfl)
theorem kl_X5_115 : xLk RX5 115 yX5_isSetting := Or.inl (xG_of (i := 708) (by decide +kernel) rfl)
theorem kl_L_31 : xLk RL 31 yX5_setSeed := Or.inl (xG_of (i := 711) (by decide +kernel) rfl)
theorem kk_X5_118 : Cond.constant RX5 118 (65535) ∈ xG := (xG_of (i := 715) (by decide +kernel) rfl)
theorem kl_L_36 : xLk RL 36 yX5_teach := Or.inl (xG_of (i := 716) (by decide +kernel) rfl)
theorem kl_X5_119 : xLk RX5 119 yX5_isWord := Or.inl (xG_of (i := 720) (by decide +kernel) rfl)
theorem kl_L_40 : xLk RL 40 yX5_setAge := Or.inl (xG_of (i := 723) (by decide +kernel) rfl)
theorem kl_L_57 : xLk RL 57 yX5_count := Or.inl (xG_of (i := 727) (by decide +kernel) rfl)
theorem kl_X5_125 : xLk RX5 125 yX5_countOf := Or.inl (xG_of (i := 731) (by decide +kernel) rfl)
theorem kl_X5_122 : xLk RX5 122 yX5_allWeights := Or.inl (xG_of (i := 735) (by decide +kernel) rfl)
theorem kl_L_61 : xLk RL 61 yX5_setting := Or.inl (xG_of (i := 739) (by decide +kernel) rfl)
theorem kl_L_65 : xLk RL 65 yX5_weight := Or.inl (xG_of (i := 743) (by decide +kernel) rfl)
theorem kl_L_69 : xLk RL 69 yX5_speaker := Or.inl (xG_of (i := 747) (by decide +kernel) rfl)
theorem kl_X5_134 : xLk RX5 134 yX5_ofSpeaker := Or.inl (xG_of (i := 751) (by decide +kernel) rfl)
theorem kl_X5_128 : xLk RX5 128 yX5_wordsOf := Or.inl (xG_of (i := 755) (by decide +kernel) rfl)
theorem kl_X5_131 : xLk RX5 131 yX5_confusions := Or.inl (xG_of (i := 759) (by decide +kernel) rfl)
theorem kl_L_73 : xLk RL 73 yX5_wordOf := Or.inl (xG_of (i := 763) (by decide +kernel) rfl)
theorem kl_L_77 : xLk RL 77 yX5_hears := Or.inl (xG_of (i := 767) (by decide +kernel) rfl)
theorem kl_L_81 : xLk RL 81 yX5_gesture := Or.inl (xG_of (i := 771) (by decide +kernel) rfl)
theorem kl_L_85 : xLk RL 85 yX5_agreement := Or.inl (xG_of (i := 775) (by decide +kernel) rfl)
theorem kl_X5_137 : xLk RX5 137 yX5_agreements := Or.inl (xG_of (i := 779) (by decide +kernel) rfl)
theorem kl_L_89 : xLk RL 89 yX5_understanding := Or.inl (xG_of (i := 783) (by decide +kernel) rfl)
theorem kl_X5_140 : xLk RX5 140 yX5_understood := Or.inl (xG_of (i := 787) (by decide +kernel) rfl)
theorem kl_L_93 : xLk RL 93 yX5_common := Or.inl (xG_of (i := 791) (by decide +kernel) rfl)
theorem kl_X5_143 : xLk RX5 143 yX5_commonOf := Or.inl (xG_of (i := 795) (by decide +kernel) rfl)
theorem kl_L_97 : xLk RL 97 yX5_ifMet := Or.inl (xG_of (i := 799) (by decide +kernel) rfl)
theorem kl_L_101 : xLk RL 101 yX5_ifChat := Or.inl (xG_of (i := 803) (by decide +kernel) rfl)
theorem kl_L_105 : xLk RL 105 yX5_bestSayer := Or.inl (xG_of (i := 807) (by decide +kernel) rfl)
theorem kl_L_109 : xLk RL 109 yX5_type := Or.inl (xG_of (i := 811) (by decide +kernel) rfl)
theorem kl_L_113 : xLk RL 113 yX5_clearText := Or.inl (xG_of (i := 815) (by decide +kernel) rfl)
theorem kl_L_117 : xLk RL 117 yX5_syntaxError := Or.inl (xG_of (i := 819) (by decide +kernel) rfl)
theorem kl_X5_183 : xLk RX5 183 yX5_findError := Or.inl (xG_of (i := 823) (by decide +kernel) rfl)
theorem kl_X5_180 : xLk RX5 180 yX5_readsHabit := Or.inl (xG_of (i := 827) (by decide +kernel) rfl)
theorem kl_X5_165 : xLk RX5 165 yX5_readsDigit := Or.inl (xG_of (i := 831) (by decide +kernel) rfl)
theorem kl_X5_152 : xLk RX5 152 yX5_character := Or.inl (xG_of (i := 835) (by decide +kernel) rfl)
theorem kl_X5_171 : xLk RX5 171 yX5_isNext := Or.inl (xG_of (i := 839) (by decide +kernel) rfl)
theorem kl_X5_177 : xLk RX5 177 yX5_readsWord := Or.inl (xG_of (i := 843) (by decide +kernel) rfl)
theorem kl_X5_158 : xLk RX5 158 yX5_isGesture := Or.inl (xG_of (i := 847) (by decide +kernel) rfl)
theorem kl_L_121 : xLk RL 121 yX5_learn := Or.inl (xG_of (i := 851) (by decide +kernel) rfl)
theorem kl_L_125 : xLk RL 125 yX5_undo := Or.inl (xG_of (i := 855) (by decide +kernel) rfl)
theorem kl_L_130 : xLk RL 130 yX5_digest := Or.inl (xG_of (i := 859) (by decide +kernel) rfl)
theorem kk_X5_186 : Cond.constantLong RX5 186 (473) ∈ xG := (xG_of (i := 863) (by decide +kernel) rfl)
theorem kk_X5_188 : Cond.constantLong RX5 188 (31) ∈ xG := (xG_of (i := 864) (by decide +kernel) rfl)
theorem ki_sys : Cond.initialized "java/lang/System" ∈ xG := (xG_of (i := 52) (by decide +kernel) rfl)
theorem ki_math : Cond.initialized "java/lang/Math" ∈ xG := (xG_of (i := 53) (by decide +kernel) rfl)
theorem kz_native : Cond.native arraycopyName ∈ xG := (xG_of (i := 192) (by decide +kernel) rfl)
theorem kz_static : Cond.static arraycopyName ∈ xG := (xG_of (i := 191) (by decide +kernel) rfl)
theorem kz_smax : Cond.static Lib.Math.max.name ∈ xG := (xG_of (i := 226) (by decide +kernel) rfl)
theorem kz_cmax : Cond.code Lib.Math.max.name Lib.Math.max.code 2 (some .int) ∈ xG := (xG_of (i := 227) (by decide +kernel) rfl)
theorem kz_smin : Cond.static Lib.Math.min.name ∈ xG := (xG_of (i := 195) (by decide +kernel) rfl)
theorem kz_cmin : Cond.code Lib.Math.min.name Lib.Math.min.code 2 (some .int) ∈ xG := (xG_of (i := 196) (by decide +kernel) rfl)
theorem kz_oi : Cond.instanceMethod objectInit ∈ xG := (xG_of (i := 60) (by decide +kernel) rfl)
theorem kz_oc : Cond.code objectInit ⟨#[0xb1]⟩ 1 none ∈ xG := (xG_of (i := 61) (by decide +kernel) rfl)

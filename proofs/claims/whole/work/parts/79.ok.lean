set_option maxRecDepth 100000 in
theorem pg_ok0 : ∀ q ∈ pg_c0, mj_oki pg pg_cl pg_ty pg_Ts pg_Nw pg_ak pg_yn pg_cc pg_rt 0 q.1 q.2 := by
  have h10 : ∀ q ∈ pg_c0.drop 400, mj_lk pg pg_cl pg_ty pg_Ts pg_Nw pg_ak pg_yn pg_cc pg_rt 0 q.1 q.2 := fun q hq => absurd hq (by rw [show pg_c0.drop 400 = [] from rfl]; exact List.not_mem_nil)
  have h9 : ∀ q ∈ pg_c0.drop 360, mj_lk pg pg_cl pg_ty pg_Ts pg_Nw pg_ak pg_yn pg_cc pg_rt 0 q.1 q.2 := pg_chop 40 _ pg_lk0_9 (by rw [List.drop_drop]; exact h10)
  have h8 : ∀ q ∈ pg_c0.drop 320, mj_lk pg pg_cl pg_ty pg_Ts pg_Nw pg_ak pg_yn pg_cc pg_rt 0 q.1 q.2 := pg_chop 40 _ pg_lk0_8 (by rw [List.drop_drop]; exact h9)
  have h7 : ∀ q ∈ pg_c0.drop 280, mj_lk pg pg_cl pg_ty pg_Ts pg_Nw pg_ak pg_yn pg_cc pg_rt 0 q.1 q.2 := pg_chop 40 _ pg_lk0_7 (by rw [List.drop_drop]; exact h8)
  have h6 : ∀ q ∈ pg_c0.drop 240, mj_lk pg pg_cl pg_ty pg_Ts pg_Nw pg_ak pg_yn pg_cc pg_rt 0 q.1 q.2 := pg_chop 40 _ pg_lk0_6 (by rw [List.drop_drop]; exact h7)
  have h5 : ∀ q ∈ pg_c0.drop 200, mj_lk pg pg_cl pg_ty pg_Ts pg_Nw pg_ak pg_yn pg_cc pg_rt 0 q.1 q.2 := pg_chop 40 _ pg_lk0_5 (by rw [List.drop_drop]; exact h6)
  have h4 : ∀ q ∈ pg_c0.drop 160, mj_lk pg pg_cl pg_ty pg_Ts pg_Nw pg_ak pg_yn pg_cc pg_rt 0 q.1 q.2 := pg_chop 40 _ pg_lk0_4 (by rw [List.drop_drop]; exact h5)
  have h3 : ∀ q ∈ pg_c0.drop 120, mj_lk pg pg_cl pg_ty pg_Ts pg_Nw pg_ak pg_yn pg_cc pg_rt 0 q.1 q.2 := pg_chop 40 _ pg_lk0_3 (by rw [List.drop_drop]; exact h4)
  have h2 : ∀ q ∈ pg_c0.drop 80, mj_lk pg pg_cl pg_ty pg_Ts pg_Nw pg_ak pg_yn pg_cc pg_rt 0 q.1 q.2 := pg_chop 40 _ pg_lk0_2 (by rw [List.drop_drop]; exact h3)
  have h1 : ∀ q ∈ pg_c0.drop 40, mj_lk pg pg_cl pg_ty pg_Ts pg_Nw pg_ak pg_yn pg_cc pg_rt 0 q.1 q.2 := pg_chop 40 _ pg_lk0_1 (by rw [List.drop_drop]; exact h2)
  have h0 : ∀ q ∈ pg_c0.drop 0, mj_lk pg pg_cl pg_ty pg_Ts pg_Nw pg_ak pg_yn pg_cc pg_rt 0 q.1 q.2 := pg_chop 40 _ pg_lk0_0 (by rw [List.drop_drop]; exact h1)
  exact fun q hq => ⟨pg_dec0 q hq, h0 q hq⟩
set_option maxRecDepth 100000 in
theorem pg_ok1 : ∀ q ∈ pg_c1, mj_oki pg pg_cl pg_ty pg_Ts pg_Nw pg_ak pg_yn pg_cc pg_rt 1 q.1 q.2 := by
  have h1 : ∀ q ∈ pg_c1.drop 40, mj_lk pg pg_cl pg_ty pg_Ts pg_Nw pg_ak pg_yn pg_cc pg_rt 1 q.1 q.2 := fun q hq => absurd hq (by rw [show pg_c1.drop 40 = [] from rfl]; exact List.not_mem_nil)
  have h0 : ∀ q ∈ pg_c1.drop 0, mj_lk pg pg_cl pg_ty pg_Ts pg_Nw pg_ak pg_yn pg_cc pg_rt 1 q.1 q.2 := pg_chop 40 _ pg_lk1_0 (by rw [List.drop_drop]; exact h1)
  exact fun q hq => ⟨pg_dec1 q hq, h0 q hq⟩
set_option maxRecDepth 100000 in
theorem pg_ok2 : ∀ q ∈ pg_c2, mj_oki pg pg_cl pg_ty pg_Ts pg_Nw pg_ak pg_yn pg_cc pg_rt 2 q.1 q.2 := by
  have h1 : ∀ q ∈ pg_c2.drop 40, mj_lk pg pg_cl pg_ty pg_Ts pg_Nw pg_ak pg_yn pg_cc pg_rt 2 q.1 q.2 := fun q hq => absurd hq (by rw [show pg_c2.drop 40 = [] from rfl]; exact List.not_mem_nil)
  have h0 : ∀ q ∈ pg_c2.drop 0, mj_lk pg pg_cl pg_ty pg_Ts pg_Nw pg_ak pg_yn pg_cc pg_rt 2 q.1 q.2 := pg_chop 40 _ pg_lk2_0 (by rw [List.drop_drop]; exact h1)
  exact fun q hq => ⟨pg_dec2 q hq, h0 q hq⟩
set_option maxRecDepth 100000 in
theorem pg_ok3 : ∀ q ∈ pg_c3, mj_oki pg pg_cl pg_ty pg_Ts pg_Nw pg_ak pg_yn pg_cc pg_rt 3 q.1 q.2 := by
  have h2 : ∀ q ∈ pg_c3.drop 80, mj_lk pg pg_cl pg_ty pg_Ts pg_Nw pg_ak pg_yn pg_cc pg_rt 3 q.1 q.2 := fun q hq => absurd hq (by rw [show pg_c3.drop 80 = [] from rfl]; exact List.not_mem_nil)
  have h1 : ∀ q ∈ pg_c3.drop 40, mj_lk pg pg_cl pg_ty pg_Ts pg_Nw pg_ak pg_yn pg_cc pg_rt 3 q.1 q.2 := pg_chop 40 _ pg_lk3_1 (by rw [List.drop_drop]; exact h2)
  have h0 : ∀ q ∈ pg_c3.drop 0, mj_lk pg pg_cl pg_ty pg_Ts pg_Nw pg_ak pg_yn pg_cc pg_rt 3 q.1 q.2 := pg_chop 40 _ pg_lk3_0 (by rw [List.drop_drop]; exact h1)
  exact fun q hq => ⟨pg_dec3 q hq, h0 q hq⟩
set_option maxRecDepth 100000 in
theorem pg_ok4 : ∀ q ∈ pg_c4, mj_oki pg pg_cl pg_ty pg_Ts pg_Nw pg_ak pg_yn pg_cc pg_rt 4 q.1 q.2 := by
  have h1 : ∀ q ∈ pg_c4.drop 40, mj_lk pg pg_cl pg_ty pg_Ts pg_Nw pg_ak pg_yn pg_cc pg_rt 4 q.1 q.2 := fun q hq => absurd hq (by rw [show pg_c4.drop 40 = [] from rfl]; exact List.not_mem_nil)
  have h0 : ∀ q ∈ pg_c4.drop 0, mj_lk pg pg_cl pg_ty pg_Ts pg_Nw pg_ak pg_yn pg_cc pg_rt 4 q.1 q.2 := pg_chop 40 _ pg_lk4_0 (by rw [List.drop_drop]; exact h1)
  exact fun q hq => ⟨pg_dec4 q hq, h0 q hq⟩
set_option maxRecDepth 100000 in
theorem pg_ok5 : ∀ q ∈ pg_c5, mj_oki pg pg_cl pg_ty pg_Ts pg_Nw pg_ak pg_yn pg_cc pg_rt 5 q.1 q.2 := by
  have h1 : ∀ q ∈ pg_c5.drop 40, mj_lk pg pg_cl pg_ty pg_Ts pg_Nw pg_ak pg_yn pg_cc pg_rt 5 q.1 q.2 := fun q hq => absurd hq (by rw [show pg_c5.drop 40 = [] from rfl]; exact List.not_mem_nil)
  have h0 : ∀ q ∈ pg_c5.drop 0, mj_lk pg pg_cl pg_ty pg_Ts pg_Nw pg_ak pg_yn pg_cc pg_rt 5 q.1 q.2 := pg_chop 40 _ pg_lk5_0 (by rw [List.drop_drop]; exact h1)
  exact fun q hq => ⟨pg_dec5 q hq, h0 q hq⟩
set_option maxRecDepth 100000 in
theorem pg_ok6 : ∀ q ∈ pg_c6, mj_oki pg pg_cl pg_ty pg_Ts pg_Nw pg_ak pg_yn pg_cc pg_rt 6 q.1 q.2 := by
  have h1 : ∀ q ∈ pg_c6.drop 40, mj_lk pg pg_cl pg_ty pg_Ts pg_Nw pg_ak pg_yn pg_cc pg_rt 6 q.1 q.2 := fun q hq => absurd hq (by rw [show pg_c6.drop 40 = [] from rfl]; exact List.not_mem_nil)
  have h0 : ∀ q ∈ pg_c6.drop 0, mj_lk pg pg_cl pg_ty pg_Ts pg_Nw pg_ak pg_yn pg_cc pg_rt 6 q.1 q.2 := pg_chop 40 _ pg_lk6_0 (by rw [List.drop_drop]; exact h1)
  exact fun q hq => ⟨pg_dec6 q hq, h0 q hq⟩
set_option maxRecDepth 100000 in
theorem pg_ok7 : ∀ q ∈ pg_c7, mj_oki pg pg_cl pg_ty pg_Ts pg_Nw pg_ak pg_yn pg_cc pg_rt 7 q.1 q.2 := by
  have h1 : ∀ q ∈ pg_c7.drop 40, mj_lk pg pg_cl pg_ty pg_Ts pg_Nw pg_ak pg_yn pg_cc pg_rt 7 q.1 q.2 := fun q hq => absurd hq (by rw [show pg_c7.drop 40 = [] from rfl]; exact List.not_mem_nil)
  have h0 : ∀ q ∈ pg_c7.drop 0, mj_lk pg pg_cl pg_ty pg_Ts pg_Nw pg_ak pg_yn pg_cc pg_rt 7 q.1 q.2 := pg_chop 40 _ pg_lk7_0 (by rw [List.drop_drop]; exact h1)
  exact fun q hq => ⟨pg_dec7 q hq, h0 q hq⟩
set_option maxRecDepth 100000 in
theorem pg_ok8 : ∀ q ∈ pg_c8, mj_oki pg pg_cl pg_ty pg_Ts pg_Nw pg_ak pg_yn pg_cc pg_rt 8 q.1 q.2 := by
  have h1 : ∀ q ∈ pg_c8.drop 40, mj_lk pg pg_cl pg_ty pg_Ts pg_Nw pg_ak pg_yn pg_cc pg_rt 8 q.1 q.2 := fun q hq => absurd hq (by rw [show pg_c8.drop 40 = [] from rfl]; exact List.not_mem_nil)
  have h0 : ∀ q ∈ pg_c8.drop 0, mj_lk pg pg_cl pg_ty pg_Ts pg_Nw pg_ak pg_yn pg_cc pg_rt 8 q.1 q.2 := pg_chop 40 _ pg_lk8_0 (by rw [List.drop_drop]; exact h1)
  exact fun q hq => ⟨pg_dec8 q hq, h0 q hq⟩
set_option maxRecDepth 100000 in
theorem pg_ok9 : ∀ q ∈ pg_c9, mj_oki pg pg_cl pg_ty pg_Ts pg_Nw pg_ak pg_yn pg_cc pg_rt 9 q.1 q.2 := by
  have h1 : ∀ q ∈ pg_c9.drop 40, mj_lk pg pg_cl pg_ty pg_Ts pg_Nw pg_ak pg_yn pg_cc pg_rt 9 q.1 q.2 := fun q hq => absurd hq (by rw [show pg_c9.drop 40 = [] from rfl]; exact List.not_mem_nil)
  have h0 : ∀ q ∈ pg_c9.drop 0, mj_lk pg pg_cl pg_ty pg_Ts pg_Nw pg_ak pg_yn pg_cc pg_rt 9 q.1 q.2 := pg_chop 40 _ pg_lk9_0 (by rw [List.drop_drop]; exact h1)
  exact fun q hq => ⟨pg_dec9 q hq, h0 q hq⟩
set_option maxRecDepth 100000 in
theorem pg_ok10 : ∀ q ∈ pg_c10, mj_oki pg pg_cl pg_ty pg_Ts pg_Nw pg_ak pg_yn pg_cc pg_rt 10 q.1 q.2 := by
  have h1 : ∀ q ∈ pg_c10.drop 40, mj_lk pg pg_cl pg_ty pg_Ts pg_Nw pg_ak pg_yn pg_cc pg_rt 10 q.1 q.2 := fun q hq => absurd hq (by rw [show pg_c10.drop 40 = [] from rfl]; exact List.not_mem_nil)
  have h0 : ∀ q ∈ pg_c10.drop 0, mj_lk pg pg_cl pg_ty pg_Ts pg_Nw pg_ak pg_yn pg_cc pg_rt 10 q.1 q.2 := pg_chop 40 _ pg_lk10_0 (by rw [List.drop_drop]; exact h1)
  exact fun q hq => ⟨pg_dec10 q hq, h0 q hq⟩
set_option maxRecDepth 100000 in
theorem pg_ok11 : ∀ q ∈ pg_c11, mj_oki pg pg_cl pg_ty pg_Ts pg_Nw pg_ak pg_yn pg_cc pg_rt 11 q.1 q.2 := by
  have h1 : ∀ q ∈ pg_c11.drop 40, mj_lk pg pg_cl pg_ty pg_Ts pg_Nw pg_ak pg_yn pg_cc pg_rt 11 q.1 q.2 := fun q hq => absurd hq (by rw [show pg_c11.drop 40 = [] from rfl]; exact List.not_mem_nil)
  have h0 : ∀ q ∈ pg_c11.drop 0, mj_lk pg pg_cl pg_ty pg_Ts pg_Nw pg_ak pg_yn pg_cc pg_rt 11 q.1 q.2 := pg_chop 40 _ pg_lk11_0 (by rw [List.drop_drop]; exact h1)
  exact fun q hq => ⟨pg_dec11 q hq, h0 q hq⟩
set_option maxRecDepth 100000 in
theorem pg_ok12 : ∀ q ∈ pg_c12, mj_oki pg pg_cl pg_ty pg_Ts pg_Nw pg_ak pg_yn pg_cc pg_rt 12 q.1 q.2 := by
  have h1 : ∀ q ∈ pg_c12.drop 40, mj_lk pg pg_cl pg_ty pg_Ts pg_Nw pg_ak pg_yn pg_cc pg_rt 12 q.1 q.2 := fun q hq => absurd hq (by rw [show pg_c12.drop 40 = [] from rfl]; exact List.not_mem_nil)
  have h0 : ∀ q ∈ pg_c12.drop 0, mj_lk pg pg_cl pg_ty pg_Ts pg_Nw pg_ak pg_yn pg_cc pg_rt 12 q.1 q.2 := pg_chop 40 _ pg_lk12_0 (by rw [List.drop_drop]; exact h1)
  exact fun q hq => ⟨pg_dec12 q hq, h0 q hq⟩
set_option maxRecDepth 100000 in
theorem pg_ok13 : ∀ q ∈ pg_c13, mj_oki pg pg_cl pg_ty pg_Ts pg_Nw pg_ak pg_yn pg_cc pg_rt 13 q.1 q.2 := by
  have h1 : ∀ q ∈ pg_c13.drop 40, mj_lk pg pg_cl pg_ty pg_Ts pg_Nw pg_ak pg_yn pg_cc pg_rt 13 q.1 q.2 := fun q hq => absurd hq (by rw [show pg_c13.drop 40 = [] from rfl]; exact List.not_mem_nil)
  have h0 : ∀ q ∈ pg_c13.drop 0, mj_lk pg pg_cl pg_ty pg_Ts pg_Nw pg_ak pg_yn pg_cc pg_rt 13 q.1 q.2 := pg_chop 40 _ pg_lk13_0 (by rw [List.drop_drop]; exact h1)
  exact fun q hq => ⟨pg_dec13 q hq, h0 q hq⟩
set_option maxRecDepth 100000 in
theorem pg_ok14 : ∀ q ∈ pg_c14, mj_oki pg pg_cl pg_ty pg_Ts pg_Nw pg_ak pg_yn pg_cc pg_rt 14 q.1 q.2 := by
  have h1 : ∀ q ∈ pg_c14.drop 40, mj_lk pg pg_cl pg_ty pg_Ts pg_Nw pg_ak pg_yn pg_cc pg_rt 14 q.1 q.2 := fun q hq => absurd hq (by rw [show pg_c14.drop 40 = [] from rfl]; exact List.not_mem_nil)
  have h0 : ∀ q ∈ pg_c14.drop 0, mj_lk pg pg_cl pg_ty pg_Ts pg_Nw pg_ak pg_yn pg_cc pg_rt 14 q.1 q.2 := pg_chop 40 _ pg_lk14_0 (by rw [List.drop_drop]; exact h1)
  exact fun q hq => ⟨pg_dec14 q hq, h0 q hq⟩
set_option maxRecDepth 100000 in
theorem pg_ok15 : ∀ q ∈ pg_c15, mj_oki pg pg_cl pg_ty pg_Ts pg_Nw pg_ak pg_yn pg_cc pg_rt 15 q.1 q.2 := by
  have h1 : ∀ q ∈ pg_c15.drop 40, mj_lk pg pg_cl pg_ty pg_Ts pg_Nw pg_ak pg_yn pg_cc pg_rt 15 q.1 q.2 := fun q hq => absurd hq (by rw [show pg_c15.drop 40 = [] from rfl]; exact List.not_mem_nil)
  have h0 : ∀ q ∈ pg_c15.drop 0, mj_lk pg pg_cl pg_ty pg_Ts pg_Nw pg_ak pg_yn pg_cc pg_rt 15 q.1 q.2 := pg_chop 40 _ pg_lk15_0 (by rw [List.drop_drop]; exact h1)
  exact fun q hq => ⟨pg_dec15 q hq, h0 q hq⟩
set_option maxRecDepth 100000 in
theorem pg_ok16 : ∀ q ∈ pg_c16, mj_oki pg pg_cl pg_ty pg_Ts pg_Nw pg_ak pg_yn pg_cc pg_rt 16 q.1 q.2 := by
  have h4 : ∀ q ∈ pg_c16.drop 160, mj_lk pg pg_cl pg_ty pg_Ts pg_Nw pg_ak pg_yn pg_cc pg_rt 16 q.1 q.2 := fun q hq => absurd hq (by rw [show pg_c16.drop 160 = [] from rfl]; exact List.not_mem_nil)
  have h3 : ∀ q ∈ pg_c16.drop 120, mj_lk pg pg_cl pg_ty pg_Ts pg_Nw pg_ak pg_yn pg_cc pg_rt 16 q.1 q.2 := pg_chop 40 _ pg_lk16_3 (by rw [List.drop_drop]; exact h4)
  have h2 : ∀ q ∈ pg_c16.drop 80, mj_lk pg pg_cl pg_ty pg_Ts pg_Nw pg_ak pg_yn pg_cc pg_rt 16 q.1 q.2 := pg_chop 40 _ pg_lk16_2 (by rw [List.drop_drop]; exact h3)
  have h1 : ∀ q ∈ pg_c16.drop 40, mj_lk pg pg_cl pg_ty pg_Ts pg_Nw pg_ak pg_yn pg_cc pg_rt 16 q.1 q.2 := pg_chop 40 _ pg_lk16_1 (by rw [List.drop_drop]; exact h2)
  have h0 : ∀ q ∈ pg_c16.drop 0, mj_lk pg pg_cl pg_ty pg_Ts pg_Nw pg_ak pg_yn pg_cc pg_rt 16 q.1 q.2 := pg_chop 40 _ pg_lk16_0 (by rw [List.drop_drop]; exact h1)
  exact fun q hq => ⟨pg_dec16 q hq, h0 q hq⟩
set_option maxRecDepth 100000 in
theorem pg_ok17 : ∀ q ∈ pg_c17, mj_oki pg pg_cl pg_ty pg_Ts pg_Nw pg_ak pg_yn pg_cc pg_rt 17 q.1 q.2 := by
  have h1 : ∀ q ∈ pg_c17.drop 40, mj_lk pg pg_cl pg_ty pg_Ts pg_Nw pg_ak pg_yn pg_cc pg_rt 17 q.1 q.2 := fun q hq => absurd hq (by rw [show pg_c17.drop 40 = [] from rfl]; exact List.not_mem_nil)
  have h0 : ∀ q ∈ pg_c17.drop 0, mj_lk pg pg_cl pg_ty pg_Ts pg_Nw pg_ak pg_yn pg_cc pg_rt 17 q.1 q.2 := pg_chop 40 _ pg_lk17_0 (by rw [List.drop_drop]; exact h1)
  exact fun q hq => ⟨pg_dec17 q hq, h0 q hq⟩
set_option maxRecDepth 100000 in
theorem pg_ok18 : ∀ q ∈ pg_c18, mj_oki pg pg_cl pg_ty pg_Ts pg_Nw pg_ak pg_yn pg_cc pg_rt 18 q.1 q.2 := by
  have h1 : ∀ q ∈ pg_c18.drop 40, mj_lk pg pg_cl pg_ty pg_Ts pg_Nw pg_ak pg_yn pg_cc pg_rt 18 q.1 q.2 := fun q hq => absurd hq (by rw [show pg_c18.drop 40 = [] from rfl]; exact List.not_mem_nil)
  have h0 : ∀ q ∈ pg_c18.drop 0, mj_lk pg pg_cl pg_ty pg_Ts pg_Nw pg_ak pg_yn pg_cc pg_rt 18 q.1 q.2 := pg_chop 40 _ pg_lk18_0 (by rw [List.drop_drop]; exact h1)
  exact fun q hq => ⟨pg_dec18 q hq, h0 q hq⟩
set_option maxRecDepth 100000 in
theorem pg_ok19 : ∀ q ∈ pg_c19, mj_oki pg pg_cl pg_ty pg_Ts pg_Nw pg_ak pg_yn pg_cc pg_rt 19 q.1 q.2 := by
  have h2 : ∀ q ∈ pg_c19.drop 80, mj_lk pg pg_cl pg_ty pg_Ts pg_Nw pg_ak pg_yn pg_cc pg_rt 19 q.1 q.2 := fun q hq => absurd hq (by rw [show pg_c19.drop 80 = [] from rfl]; exact List.not_mem_nil)
  have h1 : ∀ q ∈ pg_c19.drop 40, mj_lk pg pg_cl pg_ty pg_Ts pg_Nw pg_ak pg_yn pg_cc pg_rt 19 q.1 q.2 := pg_chop 40 _ pg_lk19_1 (by rw [List.drop_drop]; exact h2)
  have h0 : ∀ q ∈ pg_c19.drop 0, mj_lk pg pg_cl pg_ty pg_Ts pg_Nw pg_ak pg_yn pg_cc pg_rt 19 q.1 q.2 := pg_chop 40 _ pg_lk19_0 (by rw [List.drop_drop]; exact h1)
  exact fun q hq => ⟨pg_dec19 q hq, h0 q hq⟩
set_option maxRecDepth 100000 in
theorem pg_ok20 : ∀ q ∈ pg_c20, mj_oki pg pg_cl pg_ty pg_Ts pg_Nw pg_ak pg_yn pg_cc pg_rt 20 q.1 q.2 := by
  have h1 : ∀ q ∈ pg_c20.drop 40, mj_lk pg pg_cl pg_ty pg_Ts pg_Nw pg_ak pg_yn pg_cc pg_rt 20 q.1 q.2 := fun q hq => absurd hq (by rw [show pg_c20.drop 40 = [] from rfl]; exact List.not_mem_nil)
  have h0 : ∀ q ∈ pg_c20.drop 0, mj_lk pg pg_cl pg_ty pg_Ts pg_Nw pg_ak pg_yn pg_cc pg_rt 20 q.1 q.2 := pg_chop 40 _ pg_lk20_0 (by rw [List.drop_drop]; exact h1)
  exact fun q hq => ⟨pg_dec20 q hq, h0 q hq⟩
set_option maxRecDepth 100000 in
theorem pg_ok21 : ∀ q ∈ pg_c21, mj_oki pg pg_cl pg_ty pg_Ts pg_Nw pg_ak pg_yn pg_cc pg_rt 21 q.1 q.2 := by
  have h2 : ∀ q ∈ pg_c21.drop 80, mj_lk pg pg_cl pg_ty pg_Ts pg_Nw pg_ak pg_yn pg_cc pg_rt 21 q.1 q.2 := fun q hq => absurd hq (by rw [show pg_c21.drop 80 = [] from rfl]; exact List.not_mem_nil)
  have h1 : ∀ q ∈ pg_c21.drop 40, mj_lk pg pg_cl pg_ty pg_Ts pg_Nw pg_ak pg_yn pg_cc pg_rt 21 q.1 q.2 := pg_chop 40 _ pg_lk21_1 (by rw [List.drop_drop]; exact h2)
  have h0 : ∀ q ∈ pg_c21.drop 0, mj_lk pg pg_cl pg_ty pg_Ts pg_Nw pg_ak pg_yn pg_cc pg_rt 21 q.1 q.2 := pg_chop 40 _ pg_lk21_0 (by rw [List.drop_drop]; exact h1)
  exact fun q hq => ⟨pg_dec21 q hq, h0 q hq⟩
set_option maxRecDepth 100000 in
theorem pg_ok22 : ∀ q ∈ pg_c22, mj_oki pg pg_cl pg_ty pg_Ts pg_Nw pg_ak pg_yn pg_cc pg_rt 22 q.1 q.2 := by
  have h2 : ∀ q ∈ pg_c22.drop 80, mj_lk pg pg_cl pg_ty pg_Ts pg_Nw pg_ak pg_yn pg_cc pg_rt 22 q.1 q.2 := fun q hq => absurd hq (by rw [show pg_c22.drop 80 = [] from rfl]; exact List.not_mem_nil)
  have h1 : ∀ q ∈ pg_c22.drop 40, mj_lk pg pg_cl pg_ty pg_Ts pg_Nw pg_ak pg_yn pg_cc pg_rt 22 q.1 q.2 := pg_chop 40 _ pg_lk22_1 (by rw [List.drop_drop]; exact h2)
  have h0 : ∀ q ∈ pg_c22.drop 0, mj_lk pg pg_cl pg_ty pg_Ts pg_Nw pg_ak pg_yn pg_cc pg_rt 22 q.1 q.2 := pg_chop 40 _ pg_lk22_0 (by rw [List.drop_drop]; exact h1)
  exact fun q hq => ⟨pg_dec22 q hq, h0 q hq⟩
set_option maxRecDepth 100000 in
theorem pg_ok23 : ∀ q ∈ pg_c23, mj_oki pg pg_cl pg_ty pg_Ts pg_Nw pg_ak pg_yn pg_cc pg_rt 23 q.1 q.2 := by
  have h1 : ∀ q ∈ pg_c23.drop 40, mj_lk pg pg_cl pg_ty pg_Ts pg_Nw pg_ak pg_yn pg_cc pg_rt 23 q.1 q.2 := fun q hq => absurd hq (by rw [show pg_c23.drop 40 = [] from rfl]; exact List.not_mem_nil)
  have h0 : ∀ q ∈ pg_c23.drop 0, mj_lk pg pg_cl pg_ty pg_Ts pg_Nw pg_ak pg_yn pg_cc pg_rt 23 q.1 q.2 := pg_chop 40 _ pg_lk23_0 (by rw [List.drop_drop]; exact h1)
  exact fun q hq => ⟨pg_dec23 q hq, h0 q hq⟩
set_option maxRecDepth 100000 in
theorem pg_ok24 : ∀ q ∈ pg_c24, mj_oki pg pg_cl pg_ty pg_Ts pg_Nw pg_ak pg_yn pg_cc pg_rt 24 q.1 q.2 := by
  have h2 : ∀ q ∈ pg_c24.drop 80, mj_lk pg pg_cl pg_ty pg_Ts pg_Nw pg_ak pg_yn pg_cc pg_rt 24 q.1 q.2 := fun q hq => absurd hq (by rw [show pg_c24.drop 80 = [] from rfl]; exact List.not_mem_nil)
  have h1 : ∀ q ∈ pg_c24.drop 40, mj_lk pg pg_cl pg_ty pg_Ts pg_Nw pg_ak pg_yn pg_cc pg_rt 24 q.1 q.2 := pg_chop 40 _ pg_lk24_1 (by rw [List.drop_drop]; exact h2)
  have h0 : ∀ q ∈ pg_c24.drop 0, mj_lk pg pg_cl pg_ty pg_Ts pg_Nw pg_ak pg_yn pg_cc pg_rt 24 q.1 q.2 := pg_chop 40 _ pg_lk24_0 (by rw [List.drop_drop]; exact h1)
  exact fun q hq => ⟨pg_dec24 q hq, h0 q hq⟩
set_option maxRecDepth 100000 in
theorem pg_ok25 : ∀ q ∈ pg_c25, mj_oki pg pg_cl pg_ty pg_Ts pg_Nw pg_ak pg_yn pg_cc pg_rt 25 q.1 q.2 := by
  have h1 : ∀ q ∈ pg_c25.drop 40, mj_lk pg pg_cl pg_ty pg_Ts pg_Nw pg_ak pg_yn pg_cc pg_rt 25 q.1 q.2 := fun q hq => absurd hq (by rw [show pg_c25.drop 40 = [] from rfl]; exact List.not_mem_nil)
  have h0 : ∀ q ∈ pg_c25.drop 0, mj_lk pg pg_cl pg_ty pg_Ts pg_Nw pg_ak pg_yn pg_cc pg_rt 25 q.1 q.2 := pg_chop 40 _ pg_lk25_0 (by rw [List.drop_drop]; exact h1)
  exact fun q hq => ⟨pg_dec25 q hq, h0 q hq⟩
set_option maxRecDepth 100000 in
theorem pg_ok26 : ∀ q ∈ pg_c26, mj_oki pg pg_cl pg_ty pg_Ts pg_Nw pg_ak pg_yn pg_cc pg_rt 26 q.1 q.2 := by
  have h1 : ∀ q ∈ pg_c26.drop 40, mj_lk pg pg_cl pg_ty pg_Ts pg_Nw pg_ak pg_yn pg_cc pg_rt 26 q.1 q.2 := fun q hq => absurd hq (by rw [show pg_c26.drop 40 = [] from rfl]; exact List.not_mem_nil)
  have h0 : ∀ q ∈ pg_c26.drop 0, mj_lk pg pg_cl pg_ty pg_Ts pg_Nw pg_ak pg_yn pg_cc pg_rt 26 q.1 q.2 := pg_chop 40 _ pg_lk26_0 (by rw [List.drop_drop]; exact h1)
  exact fun q hq => ⟨pg_dec26 q hq, h0 q hq⟩
set_option maxRecDepth 100000 in
theorem pg_ok27 : ∀ q ∈ pg_c27, mj_oki pg pg_cl pg_ty pg_Ts pg_Nw pg_ak pg_yn pg_cc pg_rt 27 q.1 q.2 := by
  have h1 : ∀ q ∈ pg_c27.drop 40, mj_lk pg pg_cl pg_ty pg_Ts pg_Nw pg_ak pg_yn pg_cc pg_rt 27 q.1 q.2 := fun q hq => absurd hq (by rw [show pg_c27.drop 40 = [] from rfl]; exact List.not_mem_nil)
  have h0 : ∀ q ∈ pg_c27.drop 0, mj_lk pg pg_cl pg_ty pg_Ts pg_Nw pg_ak pg_yn pg_cc pg_rt 27 q.1 q.2 := pg_chop 40 _ pg_lk27_0 (by rw [List.drop_drop]; exact h1)
  exact fun q hq => ⟨pg_dec27 q hq, h0 q hq⟩
set_option maxRecDepth 100000 in
theorem pg_ok28 : ∀ q ∈ pg_c28, mj_oki pg pg_cl pg_ty pg_Ts pg_Nw pg_ak pg_yn pg_cc pg_rt 28 q.1 q.2 := by
  have h3 : ∀ q ∈ pg_c28.drop 120, mj_lk pg pg_cl pg_ty pg_Ts pg_Nw pg_ak pg_yn pg_cc pg_rt 28 q.1 q.2 := fun q hq => absurd hq (by rw [show pg_c28.drop 120 = [] from rfl]; exact List.not_mem_nil)
  have h2 : ∀ q ∈ pg_c28.drop 80, mj_lk pg pg_cl pg_ty pg_Ts pg_Nw pg_ak pg_yn pg_cc pg_rt 28 q.1 q.2 := pg_chop 40 _ pg_lk28_2 (by rw [List.drop_drop]; exact h3)
  have h1 : ∀ q ∈ pg_c28.drop 40, mj_lk pg pg_cl pg_ty pg_Ts pg_Nw pg_ak pg_yn pg_cc pg_rt 28 q.1 q.2 := pg_chop 40 _ pg_lk28_1 (by rw [List.drop_drop]; exact h2)
  have h0 : ∀ q ∈ pg_c28.drop 0, mj_lk pg pg_cl pg_ty pg_Ts pg_Nw pg_ak pg_yn pg_cc pg_rt 28 q.1 q.2 := pg_chop 40 _ pg_lk28_0 (by rw [List.drop_drop]; exact h1)
  exact fun q hq => ⟨pg_dec28 q hq, h0 q hq⟩
set_option maxRecDepth 100000 in
theorem pg_ok29 : ∀ q ∈ pg_c29, mj_oki pg pg_cl pg_ty pg_Ts pg_Nw pg_ak pg_yn pg_cc pg_rt 29 q.1 q.2 := by
  have h1 : ∀ q ∈ pg_c29.drop 40, mj_lk pg pg_cl pg_ty pg_Ts pg_Nw pg_ak pg_yn pg_cc pg_rt 29 q.1 q.2 := fun q hq => absurd hq (by rw [show pg_c29.drop 40 = [] from rfl]; exact List.not_mem_nil)
  have h0 : ∀ q ∈ pg_c29.drop 0, mj_lk pg pg_cl pg_ty pg_Ts pg_Nw pg_ak pg_yn pg_cc pg_rt 29 q.1 q.2 := pg_chop 40 _ pg_lk29_0 (by rw [List.drop_drop]; exact h1)
  exact fun q hq => ⟨pg_dec29 q hq, h0 q hq⟩
set_option maxRecDepth 100000 in
theorem pg_ok30 : ∀ q ∈ pg_c30, mj_oki pg pg_cl pg_ty pg_Ts pg_Nw pg_ak pg_yn pg_cc pg_rt 30 q.1 q.2 := by
  have h1 : ∀ q ∈ pg_c30.drop 40, mj_lk pg pg_cl pg_ty pg_Ts pg_Nw pg_ak pg_yn pg_cc pg_rt 30 q.1 q.2 := fun q hq => absurd hq (by rw [show pg_c30.drop 40 = [] from rfl]; exact List.not_mem_nil)
  have h0 : ∀ q ∈ pg_c30.drop 0, mj_lk pg pg_cl pg_ty pg_Ts pg_Nw pg_ak pg_yn pg_cc pg_rt 30 q.1 q.2 := pg_chop 40 _ pg_lk30_0 (by rw [List.drop_drop]; exact h1)
  exact fun q hq => ⟨pg_dec30 q hq, h0 q hq⟩
set_option maxRecDepth 100000 in
theorem pg_ok31 : ∀ q ∈ pg_c31, mj_oki pg pg_cl pg_ty pg_Ts pg_Nw pg_ak pg_yn pg_cc pg_rt 31 q.1 q.2 := by
  have h1 : ∀ q ∈ pg_c31.drop 40, mj_lk pg pg_cl pg_ty pg_Ts pg_Nw pg_ak pg_yn pg_cc pg_rt 31 q.1 q.2 := fun q hq => absurd hq (by rw [show pg_c31.drop 40 = [] from rfl]; exact List.not_mem_nil)
  have h0 : ∀ q ∈ pg_c31.drop 0, mj_lk pg pg_cl pg_ty pg_Ts pg_Nw pg_ak pg_yn pg_cc pg_rt 31 q.1 q.2 := pg_chop 40 _ pg_lk31_0 (by rw [List.drop_drop]; exact h1)
  exact fun q hq => ⟨pg_dec31 q hq, h0 q hq⟩
set_option maxRecDepth 100000 in
theorem pg_ok32 : ∀ q ∈ pg_c32, mj_oki pg pg_cl pg_ty pg_Ts pg_Nw pg_ak pg_yn pg_cc pg_rt 32 q.1 q.2 := by
  have h1 : ∀ q ∈ pg_c32.drop 40, mj_lk pg pg_cl pg_ty pg_Ts pg_Nw pg_ak pg_yn pg_cc pg_rt 32 q.1 q.2 := fun q hq => absurd hq (by rw [show pg_c32.drop 40 = [] from rfl]; exact List.not_mem_nil)
  have h0 : ∀ q ∈ pg_c32.drop 0, mj_lk pg pg_cl pg_ty pg_Ts pg_Nw pg_ak pg_yn pg_cc pg_rt 32 q.1 q.2 := pg_chop 40 _ pg_lk32_0 (by rw [List.drop_drop]; exact h1)
  exact fun q hq => ⟨pg_dec32 q hq, h0 q hq⟩
set_option maxRecDepth 100000 in
theorem pg_ok33 : ∀ q ∈ pg_c33, mj_oki pg pg_cl pg_ty pg_Ts pg_Nw pg_ak pg_yn pg_cc pg_rt 33 q.1 q.2 := by
  have h1 : ∀ q ∈ pg_c33.drop 40, mj_lk pg pg_cl pg_ty pg_Ts pg_Nw pg_ak pg_yn pg_cc pg_rt 33 q.1 q.2 := fun q hq => absurd hq (by rw [show pg_c33.drop 40 = [] from rfl]; exact List.not_mem_nil)
  have h0 : ∀ q ∈ pg_c33.drop 0, mj_lk pg pg_cl pg_ty pg_Ts pg_Nw pg_ak pg_yn pg_cc pg_rt 33 q.1 q.2 := pg_chop 40 _ pg_lk33_0 (by rw [List.drop_drop]; exact h1)
  exact fun q hq => ⟨pg_dec33 q hq, h0 q hq⟩
set_option maxRecDepth 100000 in
theorem pg_ok34 : ∀ q ∈ pg_c34, mj_oki pg pg_cl pg_ty pg_Ts pg_Nw pg_ak pg_yn pg_cc pg_rt 34 q.1 q.2 := by
  have h1 : ∀ q ∈ pg_c34.drop 40, mj_lk pg pg_cl pg_ty pg_Ts pg_Nw pg_ak pg_yn pg_cc pg_rt 34 q.1 q.2 := fun q hq => absurd hq (by rw [show pg_c34.drop 40 = [] from rfl]; exact List.not_mem_nil)
  have h0 : ∀ q ∈ pg_c34.drop 0, mj_lk pg pg_cl pg_ty pg_Ts pg_Nw pg_ak pg_yn pg_cc pg_rt 34 q.1 q.2 := pg_chop 40 _ pg_lk34_0 (by rw [List.drop_drop]; exact h1)
  exact fun q hq => ⟨pg_dec34 q hq, h0 q hq⟩
set_option maxRecDepth 100000 in
theorem pg_ok35 : ∀ q ∈ pg_c35, mj_oki pg pg_cl pg_ty pg_Ts pg_Nw pg_ak pg_yn pg_cc pg_rt 35 q.1 q.2 := by
  have h2 : ∀ q ∈ pg_c35.drop 80, mj_lk pg pg_cl pg_ty pg_Ts pg_Nw pg_ak pg_yn pg_cc pg_rt 35 q.1 q.2 := fun q hq => absurd hq (by rw [show pg_c35.drop 80 = [] from rfl]; exact List.not_mem_nil)
  have h1 : ∀ q ∈ pg_c35.drop 40, mj_lk pg pg_cl pg_ty pg_Ts pg_Nw pg_ak pg_yn pg_cc pg_rt 35 q.1 q.2 := pg_chop 40 _ pg_lk35_1 (by rw [List.drop_drop]; exact h2)
  have h0 : ∀ q ∈ pg_c35.drop 0, mj_lk pg pg_cl pg_ty pg_Ts pg_Nw pg_ak pg_yn pg_cc pg_rt 35 q.1 q.2 := pg_chop 40 _ pg_lk35_0 (by rw [List.drop_drop]; exact h1)
  exact fun q hq => ⟨pg_dec35 q hq, h0 q hq⟩
set_option maxRecDepth 100000 in
theorem pg_ok36 : ∀ q ∈ pg_c36, mj_oki pg pg_cl pg_ty pg_Ts pg_Nw pg_ak pg_yn pg_cc pg_rt 36 q.1 q.2 := by
  have h2 : ∀ q ∈ pg_c36.drop 80, mj_lk pg pg_cl pg_ty pg_Ts pg_Nw pg_ak pg_yn pg_cc pg_rt 36 q.1 q.2 := fun q hq => absurd hq (by rw [show pg_c36.drop 80 = [] from rfl]; exact List.not_mem_nil)
  have h1 : ∀ q ∈ pg_c36.drop 40, mj_lk pg pg_cl pg_ty pg_Ts pg_Nw pg_ak pg_yn pg_cc pg_rt 36 q.1 q.2 := pg_chop 40 _ pg_lk36_1 (by rw [List.drop_drop]; exact h2)
  have h0 : ∀ q ∈ pg_c36.drop 0, mj_lk pg pg_cl pg_ty pg_Ts pg_Nw pg_ak pg_yn pg_cc pg_rt 36 q.1 q.2 := pg_chop 40 _ pg_lk36_0 (by rw [List.drop_drop]; exact h1)
  exact fun q hq => ⟨pg_dec36 q hq, h0 q hq⟩
set_option maxRecDepth 100000 in
theorem pg_ok37 : ∀ q ∈ pg_c37, mj_oki pg pg_cl pg_ty pg_Ts pg_Nw pg_ak pg_yn pg_cc pg_rt 37 q.1 q.2 := by
  have h4 : ∀ q ∈ pg_c37.drop 160, mj_lk pg pg_cl pg_ty pg_Ts pg_Nw pg_ak pg_yn pg_cc pg_rt 37 q.1 q.2 := fun q hq => absurd hq (by rw [show pg_c37.drop 160 = [] from rfl]; exact List.not_mem_nil)
  have h3 : ∀ q ∈ pg_c37.drop 120, mj_lk pg pg_cl pg_ty pg_Ts pg_Nw pg_ak pg_yn pg_cc pg_rt 37 q.1 q.2 := pg_chop 40 _ pg_lk37_3 (by rw [List.drop_drop]; exact h4)
  have h2 : ∀ q ∈ pg_c37.drop 80, mj_lk pg pg_cl pg_ty pg_Ts pg_Nw pg_ak pg_yn pg_cc pg_rt 37 q.1 q.2 := pg_chop 40 _ pg_lk37_2 (by rw [List.drop_drop]; exact h3)
  have h1 : ∀ q ∈ pg_c37.drop 40, mj_lk pg pg_cl pg_ty pg_Ts pg_Nw pg_ak pg_yn pg_cc pg_rt 37 q.1 q.2 := pg_chop 40 _ pg_lk37_1 (by rw [List.drop_drop]; exact h2)
  have h0 : ∀ q ∈ pg_c37.drop 0, mj_lk pg pg_cl pg_ty pg_Ts pg_Nw pg_ak pg_yn pg_cc pg_rt 37 q.1 q.2 := pg_chop 40 _ pg_lk37_0 (by rw [List.drop_drop]; exact h1)
  exact fun q hq => ⟨pg_dec37 q hq, h0 q hq⟩
set_option maxRecDepth 100000 in
theorem pg_ok38 : ∀ q ∈ pg_c38, mj_oki pg pg_cl pg_ty pg_Ts pg_Nw pg_ak pg_yn pg_cc pg_rt 38 q.1 q.2 := by
  have h3 : ∀ q ∈ pg_c38.drop 120, mj_lk pg pg_cl pg_ty pg_Ts pg_Nw pg_ak pg_yn pg_cc pg_rt 38 q.1 q.2 := fun q hq => absurd hq (by rw [show pg_c38.drop 120 = [] from rfl]; exact List.not_mem_nil)
  have h2 : ∀ q ∈ pg_c38.drop 80, mj_lk pg pg_cl pg_ty pg_Ts pg_Nw pg_ak pg_yn pg_cc pg_rt 38 q.1 q.2 := pg_chop 40 _ pg_lk38_2 (by rw [List.drop_drop]; exact h3)
  have h1 : ∀ q ∈ pg_c38.drop 40, mj_lk pg pg_cl pg_ty pg_Ts pg_Nw pg_ak pg_yn pg_cc pg_rt 38 q.1 q.2 := pg_chop 40 _ pg_lk38_1 (by rw [List.drop_drop]; exact h2)
  have h0 : ∀ q ∈ pg_c38.drop 0, mj_lk pg pg_cl pg_ty pg_Ts pg_Nw pg_ak pg_yn pg_cc pg_rt 38 q.1 q.2 := pg_chop 40 _ pg_lk38_0 (by rw [List.drop_drop]; exact h1)
  exact fun q hq => ⟨pg_dec38 q hq, h0 q hq⟩
set_option maxRecDepth 100000 in
theorem pg_ok39 : ∀ q ∈ pg_c39, mj_oki pg pg_cl pg_ty pg_Ts pg_Nw pg_ak pg_yn pg_cc pg_rt 39 q.1 q.2 := by
  have h5 : ∀ q ∈ pg_c39.drop 200, mj_lk pg pg_cl pg_ty pg_Ts pg_Nw pg_ak pg_yn pg_cc pg_rt 39 q.1 q.2 := fun q hq => absurd hq (by rw [show pg_c39.drop 200 = [] from rfl]; exact List.not_mem_nil)
  have h4 : ∀ q ∈ pg_c39.drop 160, mj_lk pg pg_cl pg_ty pg_Ts pg_Nw pg_ak pg_yn pg_cc pg_rt 39 q.1 q.2 := pg_chop 40 _ pg_lk39_4 (by rw [List.drop_drop]; exact h5)
  have h3 : ∀ q ∈ pg_c39.drop 120, mj_lk pg pg_cl pg_ty pg_Ts pg_Nw pg_ak pg_yn pg_cc pg_rt 39 q.1 q.2 := pg_chop 40 _ pg_lk39_3 (by rw [List.drop_drop]; exact h4)
  have h2 : ∀ q ∈ pg_c39.drop 80, mj_lk pg pg_cl pg_ty pg_Ts pg_Nw pg_ak pg_yn pg_cc pg_rt 39 q.1 q.2 := pg_chop 40 _ pg_lk39_2 (by rw [List.drop_drop]; exact h3)
  have h1 : ∀ q ∈ pg_c39.drop 40, mj_lk pg pg_cl pg_ty pg_Ts pg_Nw pg_ak pg_yn pg_cc pg_rt 39 q.1 q.2 := pg_chop 40 _ pg_lk39_1 (by rw [List.drop_drop]; exact h2)
  have h0 : ∀ q ∈ pg_c39.drop 0, mj_lk pg pg_cl pg_ty pg_Ts pg_Nw pg_ak pg_yn pg_cc pg_rt 39 q.1 q.2 := pg_chop 40 _ pg_lk39_0 (by rw [List.drop_drop]; exact h1)
  exact fun q hq => ⟨pg_dec39 q hq, h0 q hq⟩
set_option maxRecDepth 100000 in
theorem pg_ok40 : ∀ q ∈ pg_c40, mj_oki pg pg_cl pg_ty pg_Ts pg_Nw pg_ak pg_yn pg_cc pg_rt 40 q.1 q.2 := by
  have h2 : ∀ q ∈ pg_c40.drop 80, mj_lk pg pg_cl pg_ty pg_Ts pg_Nw pg_ak pg_yn pg_cc pg_rt 40 q.1 q.2 := fun q hq => absurd hq (by rw [show pg_c40.drop 80 = [] from rfl]; exact List.not_mem_nil)
  have h1 : ∀ q ∈ pg_c40.drop 40, mj_lk pg pg_cl pg_ty pg_Ts pg_Nw pg_ak pg_yn pg_cc pg_rt 40 q.1 q.2 := pg_chop 40 _ pg_lk40_1 (by rw [List.drop_drop]; exact h2)
  have h0 : ∀ q ∈ pg_c40.drop 0, mj_lk pg pg_cl pg_ty pg_Ts pg_Nw pg_ak pg_yn pg_cc pg_rt 40 q.1 q.2 := pg_chop 40 _ pg_lk40_0 (by rw [List.drop_drop]; exact h1)
  exact fun q hq => ⟨pg_dec40 q hq, h0 q hq⟩
set_option maxRecDepth 100000 in
theorem pg_ok41 : ∀ q ∈ pg_c41, mj_oki pg pg_cl pg_ty pg_Ts pg_Nw pg_ak pg_yn pg_cc pg_rt 41 q.1 q.2 := by
  have h5 : ∀ q ∈ pg_c41.drop 200, mj_lk pg pg_cl pg_ty pg_Ts pg_Nw pg_ak pg_yn pg_cc pg_rt 41 q.1 q.2 := fun q hq => absurd hq (by rw [show pg_c41.drop 200 = [] from rfl]; exact List.not_mem_nil)
  have h4 : ∀ q ∈ pg_c41.drop 160, mj_lk pg pg_cl pg_ty pg_Ts pg_Nw pg_ak pg_yn pg_cc pg_rt 41 q.1 q.2 := pg_chop 40 _ pg_lk41_4 (by rw [List.drop_drop]; exact h5)
  have h3 : ∀ q ∈ pg_c41.drop 120, mj_lk pg pg_cl pg_ty pg_Ts pg_Nw pg_ak pg_yn pg_cc pg_rt 41 q.1 q.2 := pg_chop 40 _ pg_lk41_3 (by rw [List.drop_drop]; exact h4)
  have h2 : ∀ q ∈ pg_c41.drop 80, mj_lk pg pg_cl pg_ty pg_Ts pg_Nw pg_ak pg_yn pg_cc pg_rt 41 q.1 q.2 := pg_chop 40 _ pg_lk41_2 (by rw [List.drop_drop]; exact h3)
  have h1 : ∀ q ∈ pg_c41.drop 40, mj_lk pg pg_cl pg_ty pg_Ts pg_Nw pg_ak pg_yn pg_cc pg_rt 41 q.1 q.2 := pg_chop 40 _ pg_lk41_1 (by rw [List.drop_drop]; exact h2)
  have h0 : ∀ q ∈ pg_c41.drop 0, mj_lk pg pg_cl pg_ty pg_Ts pg_Nw pg_ak pg_yn pg_cc pg_rt 41 q.1 q.2 := pg_chop 40 _ pg_lk41_0 (by rw [List.drop_drop]; exact h1)
  exact fun q hq => ⟨pg_dec41 q hq, h0 q hq⟩
set_option maxRecDepth 100000 in
theorem pg_ok42 : ∀ q ∈ pg_c42, mj_oki pg pg_cl pg_ty pg_Ts pg_Nw pg_ak pg_yn pg_cc pg_rt 42 q.1 q.2 := by
  have h1 : ∀ q ∈ pg_c42.drop 40, mj_lk pg pg_cl pg_ty pg_Ts pg_Nw pg_ak pg_yn pg_cc pg_rt 42 q.1 q.2 := fun q hq => absurd hq (by rw [show pg_c42.drop 40 = [] from rfl]; exact List.not_mem_nil)
  have h0 : ∀ q ∈ pg_c42.drop 0, mj_lk pg pg_cl pg_ty pg_Ts pg_Nw pg_ak pg_yn pg_cc pg_rt 42 q.1 q.2 := pg_chop 40 _ pg_lk42_0 (by rw [List.drop_drop]; exact h1)
  exact fun q hq => ⟨pg_dec42 q hq, h0 q hq⟩
set_option maxRecDepth 100000 in
theorem pg_ok43 : ∀ q ∈ pg_c43, mj_oki pg pg_cl pg_ty pg_Ts pg_Nw pg_ak pg_yn pg_cc pg_rt 43 q.1 q.2 := by
  have h1 : ∀ q ∈ pg_c43.drop 40, mj_lk pg pg_cl pg_ty pg_Ts pg_Nw pg_ak pg_yn pg_cc pg_rt 43 q.1 q.2 := fun q hq => absurd hq (by rw [show pg_c43.drop 40 = [] from rfl]; exact List.not_mem_nil)
  have h0 : ∀ q ∈ pg_c43.drop 0, mj_lk pg pg_cl pg_ty pg_Ts pg_Nw pg_ak pg_yn pg_cc pg_rt 43 q.1 q.2 := pg_chop 40 _ pg_lk43_0 (by rw [List.drop_drop]; exact h1)
  exact fun q hq => ⟨pg_dec43 q hq, h0 q hq⟩
set_option maxRecDepth 100000 in
theorem pg_ok44 : ∀ q ∈ pg_c44, mj_oki pg pg_cl pg_ty pg_Ts pg_Nw pg_ak pg_yn pg_cc pg_rt 44 q.1 q.2 := by
  have h2 : ∀ q ∈ pg_c44.drop 80, mj_lk pg pg_cl pg_ty pg_Ts pg_Nw pg_ak pg_yn pg_cc pg_rt 44 q.1 q.2 := fun q hq => absurd hq (by rw [show pg_c44.drop 80 = [] from rfl]; exact List.not_mem_nil)
  have h1 : ∀ q ∈ pg_c44.drop 40, mj_lk pg pg_cl pg_ty pg_Ts pg_Nw pg_ak pg_yn pg_cc pg_rt 44 q.1 q.2 := pg_chop 40 _ pg_lk44_1 (by rw [List.drop_drop]; exact h2)
  have h0 : ∀ q ∈ pg_c44.drop 0, mj_lk pg pg_cl pg_ty pg_Ts pg_Nw pg_ak pg_yn pg_cc pg_rt 44 q.1 q.2 := pg_chop 40 _ pg_lk44_0 (by rw [List.drop_drop]; exact h1)
  exact fun q hq => ⟨pg_dec44 q hq, h0 q hq⟩
set_option maxRecDepth 100000 in
theorem pg_ok45 : ∀ q ∈ pg_c45, mj_oki pg pg_cl pg_ty pg_Ts pg_Nw pg_ak pg_yn pg_cc pg_rt 45 q.1 q.2 := by
  have h1 : ∀ q ∈ pg_c45.drop 40, mj_lk pg pg_cl pg_ty pg_Ts pg_Nw pg_ak pg_yn pg_cc pg_rt 45 q.1 q.2 := fun q hq => absurd hq (by rw [show pg_c45.drop 40 = [] from rfl]; exact List.not_mem_nil)
  have h0 : ∀ q ∈ pg_c45.drop 0, mj_lk pg pg_cl pg_ty pg_Ts pg_Nw pg_ak pg_yn pg_cc pg_rt 45 q.1 q.2 := pg_chop 40 _ pg_lk45_0 (by rw [List.drop_drop]; exact h1)
  exact fun q hq => ⟨pg_dec45 q hq, h0 q hq⟩
set_option maxRecDepth 100000 in
theorem pg_ok46 : ∀ q ∈ pg_c46, mj_oki pg pg_cl pg_ty pg_Ts pg_Nw pg_ak pg_yn pg_cc pg_rt 46 q.1 q.2 := by
  have h1 : ∀ q ∈ pg_c46.drop 40, mj_lk pg pg_cl pg_ty pg_Ts pg_Nw pg_ak pg_yn pg_cc pg_rt 46 q.1 q.2 := fun q hq => absurd hq (by rw [show pg_c46.drop 40 = [] from rfl]; exact List.not_mem_nil)
  have h0 : ∀ q ∈ pg_c46.drop 0, mj_lk pg pg_cl pg_ty pg_Ts pg_Nw pg_ak pg_yn pg_cc pg_rt 46 q.1 q.2 := pg_chop 40 _ pg_lk46_0 (by rw [List.drop_drop]; exact h1)
  exact fun q hq => ⟨pg_dec46 q hq, h0 q hq⟩
set_option maxRecDepth 100000 in
theorem pg_ok47 : ∀ q ∈ pg_c47, mj_oki pg pg_cl pg_ty pg_Ts pg_Nw pg_ak pg_yn pg_cc pg_rt 47 q.1 q.2 := by
  have h2 : ∀ q ∈ pg_c47.drop 80, mj_lk pg pg_cl pg_ty pg_Ts pg_Nw pg_ak pg_yn pg_cc pg_rt 47 q.1 q.2 := fun q hq => absurd hq (by rw [show pg_c47.drop 80 = [] from rfl]; exact List.not_mem_nil)
  have h1 : ∀ q ∈ pg_c47.drop 40, mj_lk pg pg_cl pg_ty pg_Ts pg_Nw pg_ak pg_yn pg_cc pg_rt 47 q.1 q.2 := pg_chop 40 _ pg_lk47_1 (by rw [List.drop_drop]; exact h2)
  have h0 : ∀ q ∈ pg_c47.drop 0, mj_lk pg pg_cl pg_ty pg_Ts pg_Nw pg_ak pg_yn pg_cc pg_rt 47 q.1 q.2 := pg_chop 40 _ pg_lk47_0 (by rw [List.drop_drop]; exact h1)
  exact fun q hq => ⟨pg_dec47 q hq, h0 q hq⟩
set_option maxRecDepth 100000 in
theorem pg_ok48 : ∀ q ∈ pg_c48, mj_oki pg pg_cl pg_ty pg_Ts pg_Nw pg_ak pg_yn pg_cc pg_rt 48 q.1 q.2 := by
  have h1 : ∀ q ∈ pg_c48.drop 40, mj_lk pg pg_cl pg_ty pg_Ts pg_Nw pg_ak pg_yn pg_cc pg_rt 48 q.1 q.2 := fun q hq => absurd hq (by rw [show pg_c48.drop 40 = [] from rfl]; exact List.not_mem_nil)
  have h0 : ∀ q ∈ pg_c48.drop 0, mj_lk pg pg_cl pg_ty pg_Ts pg_Nw pg_ak pg_yn pg_cc pg_rt 48 q.1 q.2 := pg_chop 40 _ pg_lk48_0 (by rw [List.drop_drop]; exact h1)
  exact fun q hq => ⟨pg_dec48 q hq, h0 q hq⟩
set_option maxRecDepth 100000 in
theorem pg_ok49 : ∀ q ∈ pg_c49, mj_oki pg pg_cl pg_ty pg_Ts pg_Nw pg_ak pg_yn pg_cc pg_rt 49 q.1 q.2 := by
  have h1 : ∀ q ∈ pg_c49.drop 40, mj_lk pg pg_cl pg_ty pg_Ts pg_Nw pg_ak pg_yn pg_cc pg_rt 49 q.1 q.2 := fun q hq => absurd hq (by rw [show pg_c49.drop 40 = [] from rfl]; exact List.not_mem_nil)
  have h0 : ∀ q ∈ pg_c49.drop 0, mj_lk pg pg_cl pg_ty pg_Ts pg_Nw pg_ak pg_yn pg_cc pg_rt 49 q.1 q.2 := pg_chop 40 _ pg_lk49_0 (by rw [List.drop_drop]; exact h1)
  exact fun q hq => ⟨pg_dec49 q hq, h0 q hq⟩
set_option maxRecDepth 100000 in
theorem pg_ok50 : ∀ q ∈ pg_c50, mj_oki pg pg_cl pg_ty pg_Ts pg_Nw pg_ak pg_yn pg_cc pg_rt 50 q.1 q.2 := by
  have h1 : ∀ q ∈ pg_c50.drop 40, mj_lk pg pg_cl pg_ty pg_Ts pg_Nw pg_ak pg_yn pg_cc pg_rt 50 q.1 q.2 := fun q hq => absurd hq (by rw [show pg_c50.drop 40 = [] from rfl]; exact List.not_mem_nil)
  have h0 : ∀ q ∈ pg_c50.drop 0, mj_lk pg pg_cl pg_ty pg_Ts pg_Nw pg_ak pg_yn pg_cc pg_rt 50 q.1 q.2 := pg_chop 40 _ pg_lk50_0 (by rw [List.drop_drop]; exact h1)
  exact fun q hq => ⟨pg_dec50 q hq, h0 q hq⟩
set_option maxRecDepth 100000 in
theorem pg_ok51 : ∀ q ∈ pg_c51, mj_oki pg pg_cl pg_ty pg_Ts pg_Nw pg_ak pg_yn pg_cc pg_rt 51 q.1 q.2 := by
  have h1 : ∀ q ∈ pg_c51.drop 40, mj_lk pg pg_cl pg_ty pg_Ts pg_Nw pg_ak pg_yn pg_cc pg_rt 51 q.1 q.2 := fun q hq => absurd hq (by rw [show pg_c51.drop 40 = [] from rfl]; exact List.not_mem_nil)
  have h0 : ∀ q ∈ pg_c51.drop 0, mj_lk pg pg_cl pg_ty pg_Ts pg_Nw pg_ak pg_yn pg_cc pg_rt 51 q.1 q.2 := pg_chop 40 _ pg_lk51_0 (by rw [List.drop_drop]; exact h1)
  exact fun q hq => ⟨pg_dec51 q hq, h0 q hq⟩
set_option maxRecDepth 100000 in
theorem pg_ok52 : ∀ q ∈ pg_c52, mj_oki pg pg_cl pg_ty pg_Ts pg_Nw pg_ak pg_yn pg_cc pg_rt 52 q.1 q.2 := by
  have h1 : ∀ q ∈ pg_c52.drop 40, mj_lk pg pg_cl pg_ty pg_Ts pg_Nw pg_ak pg_yn pg_cc pg_rt 52 q.1 q.2 := fun q hq => absurd hq (by rw [show pg_c52.drop 40 = [] from rfl]; exact List.not_mem_nil)
  have h0 : ∀ q ∈ pg_c52.drop 0, mj_lk pg pg_cl pg_ty pg_Ts pg_Nw pg_ak pg_yn pg_cc pg_rt 52 q.1 q.2 := pg_chop 40 _ pg_lk52_0 (by rw [List.drop_drop]; exact h1)
  exact fun q hq => ⟨pg_dec52 q hq, h0 q hq⟩
set_option maxRecDepth 100000 in
theorem pg_ok53 : ∀ q ∈ pg_c53, mj_oki pg pg_cl pg_ty pg_Ts pg_Nw pg_ak pg_yn pg_cc pg_rt 53 q.1 q.2 := by
  have h1 : ∀ q ∈ pg_c53.drop 40, mj_lk pg pg_cl pg_ty pg_Ts pg_Nw pg_ak pg_yn pg_cc pg_rt 53 q.1 q.2 := fun q hq => absurd hq (by rw [show pg_c53.drop 40 = [] from rfl]; exact List.not_mem_nil)
  have h0 : ∀ q ∈ pg_c53.drop 0, mj_lk pg pg_cl pg_ty pg_Ts pg_Nw pg_ak pg_yn pg_cc pg_rt 53 q.1 q.2 := pg_chop 40 _ pg_lk53_0 (by rw [List.drop_drop]; exact h1)
  exact fun q hq => ⟨pg_dec53 q hq, h0 q hq⟩
set_option maxRecDepth 100000 in
theorem pg_ok54 : ∀ q ∈ pg_c54, mj_oki pg pg_cl pg_ty pg_Ts pg_Nw pg_ak pg_yn pg_cc pg_rt 54 q.1 q.2 := by
  have h1 : ∀ q ∈ pg_c54.drop 40, mj_lk pg pg_cl pg_ty pg_Ts pg_Nw pg_ak pg_yn pg_cc pg_rt 54 q.1 q.2 := fun q hq => absurd hq (by rw [show pg_c54.drop 40 = [] from rfl]; exact List.not_mem_nil)
  have h0 : ∀ q ∈ pg_c54.drop 0, mj_lk pg pg_cl pg_ty pg_Ts pg_Nw pg_ak pg_yn pg_cc pg_rt 54 q.1 q.2 := pg_chop 40 _ pg_lk54_0 (by rw [List.drop_drop]; exact h1)
  exact fun q hq => ⟨pg_dec54 q hq, h0 q hq⟩
set_option maxRecDepth 100000 in
theorem pg_ok55 : ∀ q ∈ pg_c55, mj_oki pg pg_cl pg_ty pg_Ts pg_Nw pg_ak pg_yn pg_cc pg_rt 55 q.1 q.2 := by
  have h1 : ∀ q ∈ pg_c55.drop 40, mj_lk pg pg_cl pg_ty pg_Ts pg_Nw pg_ak pg_yn pg_cc pg_rt 55 q.1 q.2 := fun q hq => absurd hq (by rw [show pg_c55.drop 40 = [] from rfl]; exact List.not_mem_nil)
  have h0 : ∀ q ∈ pg_c55.drop 0, mj_lk pg pg_cl pg_ty pg_Ts pg_Nw pg_ak pg_yn pg_cc pg_rt 55 q.1 q.2 := pg_chop 40 _ pg_lk55_0 (by rw [List.drop_drop]; exact h1)
  exact fun q hq => ⟨pg_dec55 q hq, h0 q hq⟩
set_option maxRecDepth 100000 in
theorem pg_ok56 : ∀ q ∈ pg_c56, mj_oki pg pg_cl pg_ty pg_Ts pg_Nw pg_ak pg_yn pg_cc pg_rt 56 q.1 q.2 := by
  have h1 : ∀ q ∈ pg_c56.drop 40, mj_lk pg pg_cl pg_ty pg_Ts pg_Nw pg_ak pg_yn pg_cc pg_rt 56 q.1 q.2 := fun q hq => absurd hq (by rw [show pg_c56.drop 40 = [] from rfl]; exact List.not_mem_nil)
  have h0 : ∀ q ∈ pg_c56.drop 0, mj_lk pg pg_cl pg_ty pg_Ts pg_Nw pg_ak pg_yn pg_cc pg_rt 56 q.1 q.2 := pg_chop 40 _ pg_lk56_0 (by rw [List.drop_drop]; exact h1)
  exact fun q hq => ⟨pg_dec56 q hq, h0 q hq⟩
set_option maxRecDepth 100000 in
theorem pg_ok57 : ∀ q ∈ pg_c57, mj_oki pg pg_cl pg_ty pg_Ts pg_Nw pg_ak pg_yn pg_cc pg_rt 57 q.1 q.2 := by
  have h1 : ∀ q ∈ pg_c57.drop 40, mj_lk pg pg_cl pg_ty pg_Ts pg_Nw pg_ak pg_yn pg_cc pg_rt 57 q.1 q.2 := fun q hq => absurd hq (by rw [show pg_c57.drop 40 = [] from rfl]; exact List.not_mem_nil)
  have h0 : ∀ q ∈ pg_c57.drop 0, mj_lk pg pg_cl pg_ty pg_Ts pg_Nw pg_ak pg_yn pg_cc pg_rt 57 q.1 q.2 := pg_chop 40 _ pg_lk57_0 (by rw [List.drop_drop]; exact h1)
  exact fun q hq => ⟨pg_dec57 q hq, h0 q hq⟩
set_option maxRecDepth 100000 in
theorem pg_ok58 : ∀ q ∈ pg_c58, mj_oki pg pg_cl pg_ty pg_Ts pg_Nw pg_ak pg_yn pg_cc pg_rt 58 q.1 q.2 := by
  have h1 : ∀ q ∈ pg_c58.drop 40, mj_lk pg pg_cl pg_ty pg_Ts pg_Nw pg_ak pg_yn pg_cc pg_rt 58 q.1 q.2 := fun q hq => absurd hq (by rw [show pg_c58.drop 40 = [] from rfl]; exact List.not_mem_nil)
  have h0 : ∀ q ∈ pg_c58.drop 0, mj_lk pg pg_cl pg_ty pg_Ts pg_Nw pg_ak pg_yn pg_cc pg_rt 58 q.1 q.2 := pg_chop 40 _ pg_lk58_0 (by rw [List.drop_drop]; exact h1)
  exact fun q hq => ⟨pg_dec58 q hq, h0 q hq⟩
set_option maxRecDepth 100000 in
theorem pg_ok59 : ∀ q ∈ pg_c59, mj_oki pg pg_cl pg_ty pg_Ts pg_Nw pg_ak pg_yn pg_cc pg_rt 59 q.1 q.2 := by
  have h1 : ∀ q ∈ pg_c59.drop 40, mj_lk pg pg_cl pg_ty pg_Ts pg_Nw pg_ak pg_yn pg_cc pg_rt 59 q.1 q.2 := fun q hq => absurd hq (by rw [show pg_c59.drop 40 = [] from rfl]; exact List.not_mem_nil)
  have h0 : ∀ q ∈ pg_c59.drop 0, mj_lk pg pg_cl pg_ty pg_Ts pg_Nw pg_ak pg_yn pg_cc pg_rt 59 q.1 q.2 := pg_chop 40 _ pg_lk59_0 (by rw [List.drop_drop]; exact h1)
  exact fun q hq => ⟨pg_dec59 q hq, h0 q hq⟩
set_option maxRecDepth 100000 in
theorem pg_ok60 : ∀ q ∈ pg_c60, mj_oki pg pg_cl pg_ty pg_Ts pg_Nw pg_ak pg_yn pg_cc pg_rt 60 q.1 q.2 := by
  have h1 : ∀ q ∈ pg_c60.drop 40, mj_lk pg pg_cl pg_ty pg_Ts pg_Nw pg_ak pg_yn pg_cc pg_rt 60 q.1 q.2 := fun q hq => absurd hq (by rw [show pg_c60.drop 40 = [] from rfl]; exact List.not_mem_nil)
  have h0 : ∀ q ∈ pg_c60.drop 0, mj_lk pg pg_cl pg_ty pg_Ts pg_Nw pg_ak pg_yn pg_cc pg_rt 60 q.1 q.2 := pg_chop 40 _ pg_lk60_0 (by rw [List.drop_drop]; exact h1)
  exact fun q hq => ⟨pg_dec60 q hq, h0 q hq⟩
set_option maxRecDepth 100000 in
theorem pg_ok61 : ∀ q ∈ pg_c61, mj_oki pg pg_cl pg_ty pg_Ts pg_Nw pg_ak pg_yn pg_cc pg_rt 61 q.1 q.2 := by
  have h1 : ∀ q ∈ pg_c61.drop 40, mj_lk pg pg_cl pg_ty pg_Ts pg_Nw pg_ak pg_yn pg_cc pg_rt 61 q.1 q.2 := fun q hq => absurd hq (by rw [show pg_c61.drop 40 = [] from rfl]; exact List.not_mem_nil)
  have h0 : ∀ q ∈ pg_c61.drop 0, mj_lk pg pg_cl pg_ty pg_Ts pg_Nw pg_ak pg_yn pg_cc pg_rt 61 q.1 q.2 := pg_chop 40 _ pg_lk61_0 (by rw [List.drop_drop]; exact h1)
  exact fun q hq => ⟨pg_dec61 q hq, h0 q hq⟩
set_option maxRecDepth 100000 in
theorem pg_ok62 : ∀ q ∈ pg_c62, mj_oki pg pg_cl pg_ty pg_Ts pg_Nw pg_ak pg_yn pg_cc pg_rt 62 q.1 q.2 := by
  have h1 : ∀ q ∈ pg_c62.drop 40, mj_lk pg pg_cl pg_ty pg_Ts pg_Nw pg_ak pg_yn pg_cc pg_rt 62 q.1 q.2 := fun q hq => absurd hq (by rw [show pg_c62.drop 40 = [] from rfl]; exact List.not_mem_nil)
  have h0 : ∀ q ∈ pg_c62.drop 0, mj_lk pg pg_cl pg_ty pg_Ts pg_Nw pg_ak pg_yn pg_cc pg_rt 62 q.1 q.2 := pg_chop 40 _ pg_lk62_0 (by rw [List.drop_drop]; exact h1)
  exact fun q hq => ⟨pg_dec62 q hq, h0 q hq⟩
set_option maxRecDepth 100000 in
theorem pg_ok63 : ∀ q ∈ pg_c63, mj_oki pg pg_cl pg_ty pg_Ts pg_Nw pg_ak pg_yn pg_cc pg_rt 63 q.1 q.2 := by
  have h1 : ∀ q ∈ pg_c63.drop 40, mj_lk pg pg_cl pg_ty pg_Ts pg_Nw pg_ak pg_yn pg_cc pg_rt 63 q.1 q.2 := fun q hq => absurd hq (by rw [show pg_c63.drop 40 = [] from rfl]; exact List.not_mem_nil)
  have h0 : ∀ q ∈ pg_c63.drop 0, mj_lk pg pg_cl pg_ty pg_Ts pg_Nw pg_ak pg_yn pg_cc pg_rt 63 q.1 q.2 := pg_chop 40 _ pg_lk63_0 (by rw [List.drop_drop]; exact h1)
  exact fun q hq => ⟨pg_dec63 q hq, h0 q hq⟩
set_option maxRecDepth 100000 in
theorem pg_ok64 : ∀ q ∈ pg_c64, mj_oki pg pg_cl pg_ty pg_Ts pg_Nw pg_ak pg_yn pg_cc pg_rt 64 q.1 q.2 := by
  have h1 : ∀ q ∈ pg_c64.drop 40, mj_lk pg pg_cl pg_ty pg_Ts pg_Nw pg_ak pg_yn pg_cc pg_rt 64 q.1 q.2 := fun q hq => absurd hq (by rw [show pg_c64.drop 40 = [] from rfl]; exact List.not_mem_nil)
  have h0 : ∀ q ∈ pg_c64.drop 0, mj_lk pg pg_cl pg_ty pg_Ts pg_Nw pg_ak pg_yn pg_cc pg_rt 64 q.1 q.2 := pg_chop 40 _ pg_lk64_0 (by rw [List.drop_drop]; exact h1)
  exact fun q hq => ⟨pg_dec64 q hq, h0 q hq⟩
set_option maxRecDepth 100000 in
theorem pg_ok65 : ∀ q ∈ pg_c65, mj_oki pg pg_cl pg_ty pg_Ts pg_Nw pg_ak pg_yn pg_cc pg_rt 65 q.1 q.2 := by
  have h1 : ∀ q ∈ pg_c65.drop 40, mj_lk pg pg_cl pg_ty pg_Ts pg_Nw pg_ak pg_yn pg_cc pg_rt 65 q.1 q.2 := fun q hq => absurd hq (by rw [show pg_c65.drop 40 = [] from rfl]; exact List.not_mem_nil)
  have h0 : ∀ q ∈ pg_c65.drop 0, mj_lk pg pg_cl pg_ty pg_Ts pg_Nw pg_ak pg_yn pg_cc pg_rt 65 q.1 q.2 := pg_chop 40 _ pg_lk65_0 (by rw [List.drop_drop]; exact h1)
  exact fun q hq => ⟨pg_dec65 q hq, h0 q hq⟩
set_option maxRecDepth 100000 in
theorem pg_ok66 : ∀ q ∈ pg_c66, mj_oki pg pg_cl pg_ty pg_Ts pg_Nw pg_ak pg_yn pg_cc pg_rt 66 q.1 q.2 := by
  have h1 : ∀ q ∈ pg_c66.drop 40, mj_lk pg pg_cl pg_ty pg_Ts pg_Nw pg_ak pg_yn pg_cc pg_rt 66 q.1 q.2 := fun q hq => absurd hq (by rw [show pg_c66.drop 40 = [] from rfl]; exact List.not_mem_nil)
  have h0 : ∀ q ∈ pg_c66.drop 0, mj_lk pg pg_cl pg_ty pg_Ts pg_Nw pg_ak pg_yn pg_cc pg_rt 66 q.1 q.2 := pg_chop 40 _ pg_lk66_0 (by rw [List.drop_drop]; exact h1)
  exact fun q hq => ⟨pg_dec66 q hq, h0 q hq⟩
set_option maxRecDepth 100000 in
theorem pg_ok67 : ∀ q ∈ pg_c67, mj_oki pg pg_cl pg_ty pg_Ts pg_Nw pg_ak pg_yn pg_cc pg_rt 67 q.1 q.2 := by
  have h1 : ∀ q ∈ pg_c67.drop 40, mj_lk pg pg_cl pg_ty pg_Ts pg_Nw pg_ak pg_yn pg_cc pg_rt 67 q.1 q.2 := fun q hq => absurd hq (by rw [show pg_c67.drop 40 = [] from rfl]; exact List.not_mem_nil)
  have h0 : ∀ q ∈ pg_c67.drop 0, mj_lk pg pg_cl pg_ty pg_Ts pg_Nw pg_ak pg_yn pg_cc pg_rt 67 q.1 q.2 := pg_chop 40 _ pg_lk67_0 (by rw [List.drop_drop]; exact h1)
  exact fun q hq => ⟨pg_dec67 q hq, h0 q hq⟩
set_option maxRecDepth 100000 in
theorem pg_ok68 : ∀ q ∈ pg_c68, mj_oki pg pg_cl pg_ty pg_Ts pg_Nw pg_ak pg_yn pg_cc pg_rt 68 q.1 q.2 := by
  have h1 : ∀ q ∈ pg_c68.drop 40, mj_lk pg pg_cl pg_ty pg_Ts pg_Nw pg_ak pg_yn pg_cc pg_rt 68 q.1 q.2 := fun q hq => absurd hq (by rw [show pg_c68.drop 40 = [] from rfl]; exact List.not_mem_nil)
  have h0 : ∀ q ∈ pg_c68.drop 0, mj_lk pg pg_cl pg_ty pg_Ts pg_Nw pg_ak pg_yn pg_cc pg_rt 68 q.1 q.2 := pg_chop 40 _ pg_lk68_0 (by rw [List.drop_drop]; exact h1)
  exact fun q hq => ⟨pg_dec68 q hq, h0 q hq⟩
set_option maxRecDepth 100000 in
theorem pg_ok69 : ∀ q ∈ pg_c69, mj_oki pg pg_cl pg_ty pg_Ts pg_Nw pg_ak pg_yn pg_cc pg_rt 69 q.1 q.2 := by
  have h1 : ∀ q ∈ pg_c69.drop 40, mj_lk pg pg_cl pg_ty pg_Ts pg_Nw pg_ak pg_yn pg_cc pg_rt 69 q.1 q.2 := fun q hq => absurd hq (by rw [show pg_c69.drop 40 = [] from rfl]; exact List.not_mem_nil)
  have h0 : ∀ q ∈ pg_c69.drop 0, mj_lk pg pg_cl pg_ty pg_Ts pg_Nw pg_ak pg_yn pg_cc pg_rt 69 q.1 q.2 := pg_chop 40 _ pg_lk69_0 (by rw [List.drop_drop]; exact h1)
  exact fun q hq => ⟨pg_dec69 q hq, h0 q hq⟩
set_option maxRecDepth 100000 in
theorem pg_ok70 : ∀ q ∈ pg_c70, mj_oki pg pg_cl pg_ty pg_Ts pg_Nw pg_ak pg_yn pg_cc pg_rt 70 q.1 q.2 := by
  have h1 : ∀ q ∈ pg_c70.drop 40, mj_lk pg pg_cl pg_ty pg_Ts pg_Nw pg_ak pg_yn pg_cc pg_rt 70 q.1 q.2 := fun q hq => absurd hq (by rw [show pg_c70.drop 40 = [] from rfl]; exact List.not_mem_nil)
  have h0 : ∀ q ∈ pg_c70.drop 0, mj_lk pg pg_cl pg_ty pg_Ts pg_Nw pg_ak pg_yn pg_cc pg_rt 70 q.1 q.2 := pg_chop 40 _ pg_lk70_0 (by rw [List.drop_drop]; exact h1)
  exact fun q hq => ⟨pg_dec70 q hq, h0 q hq⟩
set_option maxRecDepth 100000 in
theorem pg_ok71 : ∀ q ∈ pg_c71, mj_oki pg pg_cl pg_ty pg_Ts pg_Nw pg_ak pg_yn pg_cc pg_rt 71 q.1 q.2 := by
  have h1 : ∀ q ∈ pg_c71.drop 40, mj_lk pg pg_cl pg_ty pg_Ts pg_Nw pg_ak pg_yn pg_cc pg_rt 71 q.1 q.2 := fun q hq => absurd hq (by rw [show pg_c71.drop 40 = [] from rfl]; exact List.not_mem_nil)
  have h0 : ∀ q ∈ pg_c71.drop 0, mj_lk pg pg_cl pg_ty pg_Ts pg_Nw pg_ak pg_yn pg_cc pg_rt 71 q.1 q.2 := pg_chop 40 _ pg_lk71_0 (by rw [List.drop_drop]; exact h1)
  exact fun q hq => ⟨pg_dec71 q hq, h0 q hq⟩
set_option maxRecDepth 100000 in
theorem pg_ok72 : ∀ q ∈ pg_c72, mj_oki pg pg_cl pg_ty pg_Ts pg_Nw pg_ak pg_yn pg_cc pg_rt 72 q.1 q.2 := by
  have h2 : ∀ q ∈ pg_c72.drop 80, mj_lk pg pg_cl pg_ty pg_Ts pg_Nw pg_ak pg_yn pg_cc pg_rt 72 q.1 q.2 := fun q hq => absurd hq (by rw [show pg_c72.drop 80 = [] from rfl]; exact List.not_mem_nil)
  have h1 : ∀ q ∈ pg_c72.drop 40, mj_lk pg pg_cl pg_ty pg_Ts pg_Nw pg_ak pg_yn pg_cc pg_rt 72 q.1 q.2 := pg_chop 40 _ pg_lk72_1 (by rw [List.drop_drop]; exact h2)
  have h0 : ∀ q ∈ pg_c72.drop 0, mj_lk pg pg_cl pg_ty pg_Ts pg_Nw pg_ak pg_yn pg_cc pg_rt 72 q.1 q.2 := pg_chop 40 _ pg_lk72_0 (by rw [List.drop_drop]; exact h1)
  exact fun q hq => ⟨pg_dec72 q hq, h0 q hq⟩
set_option maxRecDepth 100000 in
theorem pg_ok73 : ∀ q ∈ pg_c73, mj_oki pg pg_cl pg_ty pg_Ts pg_Nw pg_ak pg_yn pg_cc pg_rt 73 q.1 q.2 := by
  have h1 : ∀ q ∈ pg_c73.drop 40, mj_lk pg pg_cl pg_ty pg_Ts pg_Nw pg_ak pg_yn pg_cc pg_rt 73 q.1 q.2 := fun q hq => absurd hq (by rw [show pg_c73.drop 40 = [] from rfl]; exact List.not_mem_nil)
  have h0 : ∀ q ∈ pg_c73.drop 0, mj_lk pg pg_cl pg_ty pg_Ts pg_Nw pg_ak pg_yn pg_cc pg_rt 73 q.1 q.2 := pg_chop 40 _ pg_lk73_0 (by rw [List.drop_drop]; exact h1)
  exact fun q hq => ⟨pg_dec73 q hq, h0 q hq⟩
set_option maxRecDepth 100000 in
theorem pg_ok74 : ∀ q ∈ pg_c74, mj_oki pg pg_cl pg_ty pg_Ts pg_Nw pg_ak pg_yn pg_cc pg_rt 74 q.1 q.2 := by
  have h1 : ∀ q ∈ pg_c74.drop 40, mj_lk pg pg_cl pg_ty pg_Ts pg_Nw pg_ak pg_yn pg_cc pg_rt 74 q.1 q.2 := fun q hq => absurd hq (by rw [show pg_c74.drop 40 = [] from rfl]; exact List.not_mem_nil)
  have h0 : ∀ q ∈ pg_c74.drop 0, mj_lk pg pg_cl pg_ty pg_Ts pg_Nw pg_ak pg_yn pg_cc pg_rt 74 q.1 q.2 := pg_chop 40 _ pg_lk74_0 (by rw [List.drop_drop]; exact h1)
  exact fun q hq => ⟨pg_dec74 q hq, h0 q hq⟩
set_option maxRecDepth 100000 in
theorem pg_ok75 : ∀ q ∈ pg_c75, mj_oki pg pg_cl pg_ty pg_Ts pg_Nw pg_ak pg_yn pg_cc pg_rt 75 q.1 q.2 := by
  have h1 : ∀ q ∈ pg_c75.drop 40, mj_lk pg pg_cl pg_ty pg_Ts pg_Nw pg_ak pg_yn pg_cc pg_rt 75 q.1 q.2 := fun q hq => absurd hq (by rw [show pg_c75.drop 40 = [] from rfl]; exact List.not_mem_nil)
  have h0 : ∀ q ∈ pg_c75.drop 0, mj_lk pg pg_cl pg_ty pg_Ts pg_Nw pg_ak pg_yn pg_cc pg_rt 75 q.1 q.2 := pg_chop 40 _ pg_lk75_0 (by rw [List.drop_drop]; exact h1)
  exact fun q hq => ⟨pg_dec75 q hq, h0 q hq⟩
set_option maxRecDepth 100000 in
theorem pg_ok76 : ∀ q ∈ pg_c76, mj_oki pg pg_cl pg_ty pg_Ts pg_Nw pg_ak pg_yn pg_cc pg_rt 76 q.1 q.2 := by
  have h1 : ∀ q ∈ pg_c76.drop 40, mj_lk pg pg_cl pg_ty pg_Ts pg_Nw pg_ak pg_yn pg_cc pg_rt 76 q.1 q.2 := fun q hq => absurd hq (by rw [show pg_c76.drop 40 = [] from rfl]; exact List.not_mem_nil)
  have h0 : ∀ q ∈ pg_c76.drop 0, mj_lk pg pg_cl pg_ty pg_Ts pg_Nw pg_ak pg_yn pg_cc pg_rt 76 q.1 q.2 := pg_chop 40 _ pg_lk76_0 (by rw [List.drop_drop]; exact h1)
  exact fun q hq => ⟨pg_dec76 q hq, h0 q hq⟩
set_option maxRecDepth 100000 in
theorem pg_ok77 : ∀ q ∈ pg_c77, mj_oki pg pg_cl pg_ty pg_Ts pg_Nw pg_ak pg_yn pg_cc pg_rt 77 q.1 q.2 := by
  have h1 : ∀ q ∈ pg_c77.drop 40, mj_lk pg pg_cl pg_ty pg_Ts pg_Nw pg_ak pg_yn pg_cc pg_rt 77 q.1 q.2 := fun q hq => absurd hq (by rw [show pg_c77.drop 40 = [] from rfl]; exact List.not_mem_nil)
  have h0 : ∀ q ∈ pg_c77.drop 0, mj_lk pg pg_cl pg_ty pg_Ts pg_Nw pg_ak pg_yn pg_cc pg_rt 77 q.1 q.2 := pg_chop 40 _ pg_lk77_0 (by rw [List.drop_drop]; exact h1)
  exact fun q hq => ⟨pg_dec77 q hq, h0 q hq⟩
set_option maxRecDepth 100000 in
theorem pg_ok78 : ∀ q ∈ pg_c78, mj_oki pg pg_cl pg_ty pg_Ts pg_Nw pg_ak pg_yn pg_cc pg_rt 78 q.1 q.2 := by
  have h1 : ∀ q ∈ pg_c78.drop 40, mj_lk pg pg_cl pg_ty pg_Ts pg_Nw pg_ak pg_yn pg_cc pg_rt 78 q.1 q.2 := fun q hq => absurd hq (by rw [show pg_c78.drop 40 = [] from rfl]; exact List.not_mem_nil)
  have h0 : ∀ q ∈ pg_c78.drop 0, mj_lk pg pg_cl pg_ty pg_Ts pg_Nw pg_ak pg_yn pg_cc pg_rt 78 q.1 q.2 := pg_chop 40 _ pg_lk78_0 (by rw [List.drop_drop]; exact h1)
  exact fun q hq => ⟨pg_dec78 q hq, h0 q hq⟩
set_option maxRecDepth 100000 in
theorem pg_ok79 : ∀ q ∈ pg_c79, mj_oki pg pg_cl pg_ty pg_Ts pg_Nw pg_ak pg_yn pg_cc pg_rt 79 q.1 q.2 := by
  have h2 : ∀ q ∈ pg_c79.drop 80, mj_lk pg pg_cl pg_ty pg_Ts pg_Nw pg_ak pg_yn pg_cc pg_rt 79 q.1 q.2 := fun q hq => absurd hq (by rw [show pg_c79.drop 80 = [] from rfl]; exact List.not_mem_nil)
  have h1 : ∀ q ∈ pg_c79.drop 40, mj_lk pg pg_cl pg_ty pg_Ts pg_Nw pg_ak pg_yn pg_cc pg_rt 79 q.1 q.2 := pg_chop 40 _ pg_lk79_1 (by rw [List.drop_drop]; exact h2)
  have h0 : ∀ q ∈ pg_c79.drop 0, mj_lk pg pg_cl pg_ty pg_Ts pg_Nw pg_ak pg_yn pg_cc pg_rt 79 q.1 q.2 := pg_chop 40 _ pg_lk79_0 (by rw [List.drop_drop]; exact h1)
  exact fun q hq => ⟨pg_dec79 q hq, h0 q hq⟩
set_option maxRecDepth 100000 in
theorem pg_ok80 : ∀ q ∈ pg_c80, mj_oki pg pg_cl pg_ty pg_Ts pg_Nw pg_ak pg_yn pg_cc pg_rt 80 q.1 q.2 := by
  have h1 : ∀ q ∈ pg_c80.drop 40, mj_lk pg pg_cl pg_ty pg_Ts pg_Nw pg_ak pg_yn pg_cc pg_rt 80 q.1 q.2 := fun q hq => absurd hq (by rw [show pg_c80.drop 40 = [] from rfl]; exact List.not_mem_nil)
  have h0 : ∀ q ∈ pg_c80.drop 0, mj_lk pg pg_cl pg_ty pg_Ts pg_Nw pg_ak pg_yn pg_cc pg_rt 80 q.1 q.2 := pg_chop 40 _ pg_lk80_0 (by rw [List.drop_drop]; exact h1)
  exact fun q hq => ⟨pg_dec80 q hq, h0 q hq⟩
set_option maxRecDepth 100000 in
theorem pg_ok81 : ∀ q ∈ pg_c81, mj_oki pg pg_cl pg_ty pg_Ts pg_Nw pg_ak pg_yn pg_cc pg_rt 81 q.1 q.2 := by
  have h1 : ∀ q ∈ pg_c81.drop 40, mj_lk pg pg_cl pg_ty pg_Ts pg_Nw pg_ak pg_yn pg_cc pg_rt 81 q.1 q.2 := fun q hq => absurd hq (by rw [show pg_c81.drop 40 = [] from rfl]; exact List.not_mem_nil)
  have h0 : ∀ q ∈ pg_c81.drop 0, mj_lk pg pg_cl pg_ty pg_Ts pg_Nw pg_ak pg_yn pg_cc pg_rt 81 q.1 q.2 := pg_chop 40 _ pg_lk81_0 (by rw [List.drop_drop]; exact h1)
  exact fun q hq => ⟨pg_dec81 q hq, h0 q hq⟩
set_option maxRecDepth 100000 in
theorem pg_ok82 : ∀ q ∈ pg_c82, mj_oki pg pg_cl pg_ty pg_Ts pg_Nw pg_ak pg_yn pg_cc pg_rt 82 q.1 q.2 := by
  have h1 : ∀ q ∈ pg_c82.drop 40, mj_lk pg pg_cl pg_ty pg_Ts pg_Nw pg_ak pg_yn pg_cc pg_rt 82 q.1 q.2 := fun q hq => absurd hq (by rw [show pg_c82.drop 40 = [] from rfl]; exact List.not_mem_nil)
  have h0 : ∀ q ∈ pg_c82.drop 0, mj_lk pg pg_cl pg_ty pg_Ts pg_Nw pg_ak pg_yn pg_cc pg_rt 82 q.1 q.2 := pg_chop 40 _ pg_lk82_0 (by rw [List.drop_drop]; exact h1)
  exact fun q hq => ⟨pg_dec82 q hq, h0 q hq⟩
set_option maxRecDepth 100000 in
theorem pg_ok83 : ∀ q ∈ pg_c83, mj_oki pg pg_cl pg_ty pg_Ts pg_Nw pg_ak pg_yn pg_cc pg_rt 83 q.1 q.2 := by
  have h2 : ∀ q ∈ pg_c83.drop 80, mj_lk pg pg_cl pg_ty pg_Ts pg_Nw pg_ak pg_yn pg_cc pg_rt 83 q.1 q.2 := fun q hq => absurd hq (by rw [show pg_c83.drop 80 = [] from rfl]; exact List.not_mem_nil)
  have h1 : ∀ q ∈ pg_c83.drop 40, mj_lk pg pg_cl pg_ty pg_Ts pg_Nw pg_ak pg_yn pg_cc pg_rt 83 q.1 q.2 := pg_chop 40 _ pg_lk83_1 (by rw [List.drop_drop]; exact h2)
  have h0 : ∀ q ∈ pg_c83.drop 0, mj_lk pg pg_cl pg_ty pg_Ts pg_Nw pg_ak pg_yn pg_cc pg_rt 83 q.1 q.2 := pg_chop 40 _ pg_lk83_0 (by rw [List.drop_drop]; exact h1)
  exact fun q hq => ⟨pg_dec83 q hq, h0 q hq⟩
set_option maxRecDepth 100000 in
theorem pg_ok84 : ∀ q ∈ pg_c84, mj_oki pg pg_cl pg_ty pg_Ts pg_Nw pg_ak pg_yn pg_cc pg_rt 84 q.1 q.2 := by
  have h2 : ∀ q ∈ pg_c84.drop 80, mj_lk pg pg_cl pg_ty pg_Ts pg_Nw pg_ak pg_yn pg_cc pg_rt 84 q.1 q.2 := fun q hq => absurd hq (by rw [show pg_c84.drop 80 = [] from rfl]; exact List.not_mem_nil)
  have h1 : ∀ q ∈ pg_c84.drop 40, mj_lk pg pg_cl pg_ty pg_Ts pg_Nw pg_ak pg_yn pg_cc pg_rt 84 q.1 q.2 := pg_chop 40 _ pg_lk84_1 (by rw [List.drop_drop]; exact h2)
  have h0 : ∀ q ∈ pg_c84.drop 0, mj_lk pg pg_cl pg_ty pg_Ts pg_Nw pg_ak pg_yn pg_cc pg_rt 84 q.1 q.2 := pg_chop 40 _ pg_lk84_0 (by rw [List.drop_drop]; exact h1)
  exact fun q hq => ⟨pg_dec84 q hq, h0 q hq⟩
set_option maxRecDepth 100000 in
theorem pg_ok85 : ∀ q ∈ pg_c85, mj_oki pg pg_cl pg_ty pg_Ts pg_Nw pg_ak pg_yn pg_cc pg_rt 85 q.1 q.2 := by
  have h1 : ∀ q ∈ pg_c85.drop 40, mj_lk pg pg_cl pg_ty pg_Ts pg_Nw pg_ak pg_yn pg_cc pg_rt 85 q.1 q.2 := fun q hq => absurd hq (by rw [show pg_c85.drop 40 = [] from rfl]; exact List.not_mem_nil)
  have h0 : ∀ q ∈ pg_c85.drop 0, mj_lk pg pg_cl pg_ty pg_Ts pg_Nw pg_ak pg_yn pg_cc pg_rt 85 q.1 q.2 := pg_chop 40 _ pg_lk85_0 (by rw [List.drop_drop]; exact h1)
  exact fun q hq => ⟨pg_dec85 q hq, h0 q hq⟩
set_option maxRecDepth 100000 in
theorem pg_ok86 : ∀ q ∈ pg_c86, mj_oki pg pg_cl pg_ty pg_Ts pg_Nw pg_ak pg_yn pg_cc pg_rt 86 q.1 q.2 := by
  have h2 : ∀ q ∈ pg_c86.drop 80, mj_lk pg pg_cl pg_ty pg_Ts pg_Nw pg_ak pg_yn pg_cc pg_rt 86 q.1 q.2 := fun q hq => absurd hq (by rw [show pg_c86.drop 80 = [] from rfl]; exact List.not_mem_nil)
  have h1 : ∀ q ∈ pg_c86.drop 40, mj_lk pg pg_cl pg_ty pg_Ts pg_Nw pg_ak pg_yn pg_cc pg_rt 86 q.1 q.2 := pg_chop 40 _ pg_lk86_1 (by rw [List.drop_drop]; exact h2)
  have h0 : ∀ q ∈ pg_c86.drop 0, mj_lk pg pg_cl pg_ty pg_Ts pg_Nw pg_ak pg_yn pg_cc pg_rt 86 q.1 q.2 := pg_chop 40 _ pg_lk86_0 (by rw [List.drop_drop]; exact h1)
  exact fun q hq => ⟨pg_dec86 q hq, h0 q hq⟩
set_option maxRecDepth 100000 in
theorem pg_ok87 : ∀ q ∈ pg_c87, mj_oki pg pg_cl pg_ty pg_Ts pg_Nw pg_ak pg_yn pg_cc pg_rt 87 q.1 q.2 := by
  have h2 : ∀ q ∈ pg_c87.drop 80, mj_lk pg pg_cl pg_ty pg_Ts pg_Nw pg_ak pg_yn pg_cc pg_rt 87 q.1 q.2 := fun q hq => absurd hq (by rw [show pg_c87.drop 80 = [] from rfl]; exact List.not_mem_nil)
  have h1 : ∀ q ∈ pg_c87.drop 40, mj_lk pg pg_cl pg_ty pg_Ts pg_Nw pg_ak pg_yn pg_cc pg_rt 87 q.1 q.2 := pg_chop 40 _ pg_lk87_1 (by rw [List.drop_drop]; exact h2)
  have h0 : ∀ q ∈ pg_c87.drop 0, mj_lk pg pg_cl pg_ty pg_Ts pg_Nw pg_ak pg_yn pg_cc pg_rt 87 q.1 q.2 := pg_chop 40 _ pg_lk87_0 (by rw [List.drop_drop]; exact h1)
  exact fun q hq => ⟨pg_dec87 q hq, h0 q hq⟩
set_option maxRecDepth 100000 in
theorem pg_ok88 : ∀ q ∈ pg_c88, mj_oki pg pg_cl pg_ty pg_Ts pg_Nw pg_ak pg_yn pg_cc pg_rt 88 q.1 q.2 := by
  have h2 : ∀ q ∈ pg_c88.drop 80, mj_lk pg pg_cl pg_ty pg_Ts pg_Nw pg_ak pg_yn pg_cc pg_rt 88 q.1 q.2 := fun q hq => absurd hq (by rw [show pg_c88.drop 80 = [] from rfl]; exact List.not_mem_nil)
  have h1 : ∀ q ∈ pg_c88.drop 40, mj_lk pg pg_cl pg_ty pg_Ts pg_Nw pg_ak pg_yn pg_cc pg_rt 88 q.1 q.2 := pg_chop 40 _ pg_lk88_1 (by rw [List.drop_drop]; exact h2)
  have h0 : ∀ q ∈ pg_c88.drop 0, mj_lk pg pg_cl pg_ty pg_Ts pg_Nw pg_ak pg_yn pg_cc pg_rt 88 q.1 q.2 := pg_chop 40 _ pg_lk88_0 (by rw [List.drop_drop]; exact h1)
  exact fun q hq => ⟨pg_dec88 q hq, h0 q hq⟩
set_option maxRecDepth 100000 in
theorem pg_ok89 : ∀ q ∈ pg_c89, mj_oki pg pg_cl pg_ty pg_Ts pg_Nw pg_ak pg_yn pg_cc pg_rt 89 q.1 q.2 := by
  have h1 : ∀ q ∈ pg_c89.drop 40, mj_lk pg pg_cl pg_ty pg_Ts pg_Nw pg_ak pg_yn pg_cc pg_rt 89 q.1 q.2 := fun q hq => absurd hq (by rw [show pg_c89.drop 40 = [] from rfl]; exact List.not_mem_nil)
  have h0 : ∀ q ∈ pg_c89.drop 0, mj_lk pg pg_cl pg_ty pg_Ts pg_Nw pg_ak pg_yn pg_cc pg_rt 89 q.1 q.2 := pg_chop 40 _ pg_lk89_0 (by rw [List.drop_drop]; exact h1)
  exact fun q hq => ⟨pg_dec89 q hq, h0 q hq⟩
set_option maxRecDepth 100000 in
theorem pg_ok90 : ∀ q ∈ pg_c90, mj_oki pg pg_cl pg_ty pg_Ts pg_Nw pg_ak pg_yn pg_cc pg_rt 90 q.1 q.2 := by
  have h1 : ∀ q ∈ pg_c90.drop 40, mj_lk pg pg_cl pg_ty pg_Ts pg_Nw pg_ak pg_yn pg_cc pg_rt 90 q.1 q.2 := fun q hq => absurd hq (by rw [show pg_c90.drop 40 = [] from rfl]; exact List.not_mem_nil)
  have h0 : ∀ q ∈ pg_c90.drop 0, mj_lk pg pg_cl pg_ty pg_Ts pg_Nw pg_ak pg_yn pg_cc pg_rt 90 q.1 q.2 := pg_chop 40 _ pg_lk90_0 (by rw [List.drop_drop]; exact h1)
  exact fun q hq => ⟨pg_dec90 q hq, h0 q hq⟩
set_option maxRecDepth 100000 in
theorem pg_ok91 : ∀ q ∈ pg_c91, mj_oki pg pg_cl pg_ty pg_Ts pg_Nw pg_ak pg_yn pg_cc pg_rt 91 q.1 q.2 := by
  have h1 : ∀ q ∈ pg_c91.drop 40, mj_lk pg pg_cl pg_ty pg_Ts pg_Nw pg_ak pg_yn pg_cc pg_rt 91 q.1 q.2 := fun q hq => absurd hq (by rw [show pg_c91.drop 40 = [] from rfl]; exact List.not_mem_nil)
  have h0 : ∀ q ∈ pg_c91.drop 0, mj_lk pg pg_cl pg_ty pg_Ts pg_Nw pg_ak pg_yn pg_cc pg_rt 91 q.1 q.2 := pg_chop 40 _ pg_lk91_0 (by rw [List.drop_drop]; exact h1)
  exact fun q hq => ⟨pg_dec91 q hq, h0 q hq⟩
set_option maxRecDepth 100000 in
theorem pg_ok92 : ∀ q ∈ pg_c92, mj_oki pg pg_cl pg_ty pg_Ts pg_Nw pg_ak pg_yn pg_cc pg_rt 92 q.1 q.2 := by
  have h1 : ∀ q ∈ pg_c92.drop 40, mj_lk pg pg_cl pg_ty pg_Ts pg_Nw pg_ak pg_yn pg_cc pg_rt 92 q.1 q.2 := fun q hq => absurd hq (by rw [show pg_c92.drop 40 = [] from rfl]; exact List.not_mem_nil)
  have h0 : ∀ q ∈ pg_c92.drop 0, mj_lk pg pg_cl pg_ty pg_Ts pg_Nw pg_ak pg_yn pg_cc pg_rt 92 q.1 q.2 := pg_chop 40 _ pg_lk92_0 (by rw [List.drop_drop]; exact h1)
  exact fun q hq => ⟨pg_dec92 q hq, h0 q hq⟩
set_option maxRecDepth 100000 in
theorem pg_ok93 : ∀ q ∈ pg_c93, mj_oki pg pg_cl pg_ty pg_Ts pg_Nw pg_ak pg_yn pg_cc pg_rt 93 q.1 q.2 := by
  have h1 : ∀ q ∈ pg_c93.drop 40, mj_lk pg pg_cl pg_ty pg_Ts pg_Nw pg_ak pg_yn pg_cc pg_rt 93 q.1 q.2 := fun q hq => absurd hq (by rw [show pg_c93.drop 40 = [] from rfl]; exact List.not_mem_nil)
  have h0 : ∀ q ∈ pg_c93.drop 0, mj_lk pg pg_cl pg_ty pg_Ts pg_Nw pg_ak pg_yn pg_cc pg_rt 93 q.1 q.2 := pg_chop 40 _ pg_lk93_0 (by rw [List.drop_drop]; exact h1)
  exact fun q hq => ⟨pg_dec93 q hq, h0 q hq⟩
set_option maxRecDepth 100000 in
theorem pg_ok94 : ∀ q ∈ pg_c94, mj_oki pg pg_cl pg_ty pg_Ts pg_Nw pg_ak pg_yn pg_cc pg_rt 94 q.1 q.2 := by
  have h1 : ∀ q ∈ pg_c94.drop 40, mj_lk pg pg_cl pg_ty pg_Ts pg_Nw pg_ak pg_yn pg_cc pg_rt 94 q.1 q.2 := fun q hq => absurd hq (by rw [show pg_c94.drop 40 = [] from rfl]; exact List.not_mem_nil)
  have h0 : ∀ q ∈ pg_c94.drop 0, mj_lk pg pg_cl pg_ty pg_Ts pg_Nw pg_ak pg_yn pg_cc pg_rt 94 q.1 q.2 := pg_chop 40 _ pg_lk94_0 (by rw [List.drop_drop]; exact h1)
  exact fun q hq => ⟨pg_dec94 q hq, h0 q hq⟩
set_option maxRecDepth 100000 in
theorem pg_ok95 : ∀ q ∈ pg_c95, mj_oki pg pg_cl pg_ty pg_Ts pg_Nw pg_ak pg_yn pg_cc pg_rt 95 q.1 q.2 := by
  have h1 : ∀ q ∈ pg_c95.drop 40, mj_lk pg pg_cl pg_ty pg_Ts pg_Nw pg_ak pg_yn pg_cc pg_rt 95 q.1 q.2 := fun q hq => absurd hq (by rw [show pg_c95.drop 40 = [] from rfl]; exact List.not_mem_nil)
  have h0 : ∀ q ∈ pg_c95.drop 0, mj_lk pg pg_cl pg_ty pg_Ts pg_Nw pg_ak pg_yn pg_cc pg_rt 95 q.1 q.2 := pg_chop 40 _ pg_lk95_0 (by rw [List.drop_drop]; exact h1)
  exact fun q hq => ⟨pg_dec95 q hq, h0 q hq⟩
set_option maxRecDepth 100000 in
theorem pg_ok96 : ∀ q ∈ pg_c96, mj_oki pg pg_cl pg_ty pg_Ts pg_Nw pg_ak pg_yn pg_cc pg_rt 96 q.1 q.2 := by
  have h1 : ∀ q ∈ pg_c96.drop 40, mj_lk pg pg_cl pg_ty pg_Ts pg_Nw pg_ak pg_yn pg_cc pg_rt 96 q.1 q.2 := fun q hq => absurd hq (by rw [show pg_c96.drop 40 = [] from rfl]; exact List.not_mem_nil)
  have h0 : ∀ q ∈ pg_c96.drop 0, mj_lk pg pg_cl pg_ty pg_Ts pg_Nw pg_ak pg_yn pg_cc pg_rt 96 q.1 q.2 := pg_chop 40 _ pg_lk96_0 (by rw [List.drop_drop]; exact h1)
  exact fun q hq => ⟨pg_dec96 q hq, h0 q hq⟩
set_option maxRecDepth 100000 in
theorem pg_ok97 : ∀ q ∈ pg_c97, mj_oki pg pg_cl pg_ty pg_Ts pg_Nw pg_ak pg_yn pg_cc pg_rt 97 q.1 q.2 := by
  have h1 : ∀ q ∈ pg_c97.drop 40, mj_lk pg pg_cl pg_ty pg_Ts pg_Nw pg_ak pg_yn pg_cc pg_rt 97 q.1 q.2 := fun q hq => absurd hq (by rw [show pg_c97.drop 40 = [] from rfl]; exact List.not_mem_nil)
  have h0 : ∀ q ∈ pg_c97.drop 0, mj_lk pg pg_cl pg_ty pg_Ts pg_Nw pg_ak pg_yn pg_cc pg_rt 97 q.1 q.2 := pg_chop 40 _ pg_lk97_0 (by rw [List.drop_drop]; exact h1)
  exact fun q hq => ⟨pg_dec97 q hq, h0 q hq⟩
set_option maxRecDepth 100000 in
theorem pg_ok98 : ∀ q ∈ pg_c98, mj_oki pg pg_cl pg_ty pg_Ts pg_Nw pg_ak pg_yn pg_cc pg_rt 98 q.1 q.2 := by
  have h1 : ∀ q ∈ pg_c98.drop 40, mj_lk pg pg_cl pg_ty pg_Ts pg_Nw pg_ak pg_yn pg_cc pg_rt 98 q.1 q.2 := fun q hq => absurd hq (by rw [show pg_c98.drop 40 = [] from rfl]; exact List.not_mem_nil)
  have h0 : ∀ q ∈ pg_c98.drop 0, mj_lk pg pg_cl pg_ty pg_Ts pg_Nw pg_ak pg_yn pg_cc pg_rt 98 q.1 q.2 := pg_chop 40 _ pg_lk98_0 (by rw [List.drop_drop]; exact h1)
  exact fun q hq => ⟨pg_dec98 q hq, h0 q hq⟩
set_option maxRecDepth 100000 in
theorem pg_ok99 : ∀ q ∈ pg_c99, mj_oki pg pg_cl pg_ty pg_Ts pg_Nw pg_ak pg_yn pg_cc pg_rt 99 q.1 q.2 := by
  have h1 : ∀ q ∈ pg_c99.drop 40, mj_lk pg pg_cl pg_ty pg_Ts pg_Nw pg_ak pg_yn pg_cc pg_rt 99 q.1 q.2 := fun q hq => absurd hq (by rw [show pg_c99.drop 40 = [] from rfl]; exact List.not_mem_nil)
  have h0 : ∀ q ∈ pg_c99.drop 0, mj_lk pg pg_cl pg_ty pg_Ts pg_Nw pg_ak pg_yn pg_cc pg_rt 99 q.1 q.2 := pg_chop 40 _ pg_lk99_0 (by rw [List.drop_drop]; exact h1)
  exact fun q hq => ⟨pg_dec99 q hq, h0 q hq⟩
set_option maxRecDepth 100000 in
theorem pg_ok100 : ∀ q ∈ pg_c100, mj_oki pg pg_cl pg_ty pg_Ts pg_Nw pg_ak pg_yn pg_cc pg_rt 100 q.1 q.2 := by
  have h1 : ∀ q ∈ pg_c100.drop 40, mj_lk pg pg_cl pg_ty pg_Ts pg_Nw pg_ak pg_yn pg_cc pg_rt 100 q.1 q.2 := fun q hq => absurd hq (by rw [show pg_c100.drop 40 = [] from rfl]; exact List.not_mem_nil)
  have h0 : ∀ q ∈ pg_c100.drop 0, mj_lk pg pg_cl pg_ty pg_Ts pg_Nw pg_ak pg_yn pg_cc pg_rt 100 q.1 q.2 := pg_chop 40 _ pg_lk100_0 (by rw [List.drop_drop]; exact h1)
  exact fun q hq => ⟨pg_dec100 q hq, h0 q hq⟩
set_option maxRecDepth 100000 in
theorem pg_ok101 : ∀ q ∈ pg_c101, mj_oki pg pg_cl pg_ty pg_Ts pg_Nw pg_ak pg_yn pg_cc pg_rt 101 q.1 q.2 := by
  have h1 : ∀ q ∈ pg_c101.drop 40, mj_lk pg pg_cl pg_ty pg_Ts pg_Nw pg_ak pg_yn pg_cc pg_rt 101 q.1 q.2 := fun q hq => absurd hq (by rw [show pg_c101.drop 40 = [] from rfl]; exact List.not_mem_nil)
  have h0 : ∀ q ∈ pg_c101.drop 0, mj_lk pg pg_cl pg_ty pg_Ts pg_Nw pg_ak pg_yn pg_cc pg_rt 101 q.1 q.2 := pg_chop 40 _ pg_lk101_0 (by rw [List.drop_drop]; exact h1)
  exact fun q hq => ⟨pg_dec101 q hq, h0 q hq⟩
set_option maxRecDepth 100000 in
theorem pg_ok102 : ∀ q ∈ pg_c102, mj_oki pg pg_cl pg_ty pg_Ts pg_Nw pg_ak pg_yn pg_cc pg_rt 102 q.1 q.2 := by
  have h1 : ∀ q ∈ pg_c102.drop 40, mj_lk pg pg_cl pg_ty pg_Ts pg_Nw pg_ak pg_yn pg_cc pg_rt 102 q.1 q.2 := fun q hq => absurd hq (by rw [show pg_c102.drop 40 = [] from rfl]; exact List.not_mem_nil)
  have h0 : ∀ q ∈ pg_c102.drop 0, mj_lk pg pg_cl pg_ty pg_Ts pg_Nw pg_ak pg_yn pg_cc pg_rt 102 q.1 q.2 := pg_chop 40 _ pg_lk102_0 (by rw [List.drop_drop]; exact h1)
  exact fun q hq => ⟨pg_dec102 q hq, h0 q hq⟩
theorem pg_look {l : List (Nat × mj_I)} {pc : Nat} {i : mj_I} (h : l.lookup pc = some i) : (pc, i) ∈ l := by
  induction l with
  | nil => cases h
  | cons q t ih =>
    obtain ⟨k, j⟩ := q
    rw [List.lookup_cons] at h
    by_cases hk : (pc == k) = true
    · rw [hk] at h
      have h : j = i := Option.some.inj h
      subst h
      have : pc = k := by simpa using hk
      subst this
      exact List.mem_cons_self
    · rw [Bool.not_eq_true] at hk
      rw [hk] at h
      exact List.mem_cons_of_mem _ (ih h)
theorem pg_nwf : mj_nwf pg_Nw := by
  intro w hw
  unfold pg_Nw at hw
  simp only [List.mem_cons, List.not_mem_nil, or_false] at hw
  rcases hw with rfl | rfl | rfl | rfl | rfl | rfl
  · exact Or.inr (Or.inl ⟨_, _, _, _, rfl⟩)
  · exact Or.inr (Or.inr ⟨_, rfl⟩)
  · exact Or.inr (Or.inr ⟨_, rfl⟩)
  · exact Or.inr (Or.inl ⟨_, _, _, _, rfl⟩)
  · exact Or.inr (Or.inr ⟨_, rfl⟩)
  · exact Or.inr (Or.inl ⟨_, _, _, _, rfl⟩)
theorem pg_OK : mj_OK pg pg_cl pg_ty pg_Ts pg_Nw pg_ak pg_yn pg_cc pg_rt := by
  refine ⟨fun M pc i h => ?_, fun w hw => (List.mem_filter.mp hw).2, pg_nwf⟩
  have h : (pg_cs M).lookup pc = some i := h
  have hm := pg_look h
  clear h
  match M, hm with
  | 0, hm => exact pg_ok0 (pc, i) hm
  | 1, hm => exact pg_ok1 (pc, i) hm
  | 2, hm => exact pg_ok2 (pc, i) hm
  | 3, hm => exact pg_ok3 (pc, i) hm
  | 4, hm => exact pg_ok4 (pc, i) hm
  | 5, hm => exact pg_ok5 (pc, i) hm
  | 6, hm => exact pg_ok6 (pc, i) hm
  | 7, hm => exact pg_ok7 (pc, i) hm
  | 8, hm => exact pg_ok8 (pc, i) hm
  | 9, hm => exact pg_ok9 (pc, i) hm
  | 10, hm => exact pg_ok10 (pc, i) hm
  | 11, hm => exact pg_ok11 (pc, i) hm
  | 12, hm => exact pg_ok12 (pc, i) hm
  | 13, hm => exact pg_ok13 (pc, i) hm
  | 14, hm => exact pg_ok14 (pc, i) hm
  | 15, hm => exact pg_ok15 (pc, i) hm
  | 16, hm => exact pg_ok16 (pc, i) hm
  | 17, hm => exact pg_ok17 (pc, i) hm
  | 18, hm => exact pg_ok18 (pc, i) hm
  | 19, hm => exact pg_ok19 (pc, i) hm
  | 20, hm => exact pg_ok20 (pc, i) hm
  | 21, hm => exact pg_ok21 (pc, i) hm
  | 22, hm => exact pg_ok22 (pc, i) hm
  | 23, hm => exact pg_ok23 (pc, i) hm
  | 24, hm => exact pg_ok24 (pc, i) hm
  | 25, hm => exact pg_ok25 (pc, i) hm
  | 26, hm => exact pg_ok26 (pc, i) hm
  | 27, hm => exact pg_ok27 (pc, i) hm
  | 28, hm => exact pg_ok28 (pc, i) hm
  | 29, hm => exact pg_ok29 (pc, i) hm
  | 30, hm => exact pg_ok30 (pc, i) hm
  | 31, hm => exact pg_ok31 (pc, i) hm
  | 32, hm => exact pg_ok32 (pc, i) hm
  | 33, hm => exact pg_ok33 (pc, i) hm
  | 34, hm => exact pg_ok34 (pc, i) hm
  | 35, hm => exact pg_ok35 (pc, i) hm
  | 36, hm => exact pg_ok36 (pc, i) hm
  | 37, hm => exact pg_ok37 (pc, i) hm
  | 38, hm => exact pg_ok38 (pc, i) hm
  | 39, hm => exact pg_ok39 (pc, i) hm
  | 40, hm => exact pg_ok40 (pc, i) hm
  | 41, hm => exact pg_ok41 (pc, i) hm
  | 42, hm => exact pg_ok42 (pc, i) hm
  | 43, hm => exact pg_ok43 (pc, i) hm
  | 44, hm => exact pg_ok44 (pc, i) hm
  | 45, hm => exact pg_ok45 (pc, i) hm
  | 46, hm => exact pg_ok46 (pc, i) hm
  | 47, hm => exact pg_ok47 (pc, i) hm
  | 48, hm => exact pg_ok48 (pc, i) hm
  | 49, hm => exact pg_ok49 (pc, i) hm
  | 50, hm => exact pg_ok50 (pc, i) hm
  | 51, hm => exact pg_ok51 (pc, i) hm
  | 52, hm => exact pg_ok52 (pc, i) hm
  | 53, hm => exact pg_ok53 (pc, i) hm
  | 54, hm => exact pg_ok54 (pc, i) hm
  | 55, hm => exact pg_ok55 (pc, i) hm
  | 56, hm => exact pg_ok56 (pc, i) hm
  | 57, hm => exact pg_ok57 (pc, i) hm
  | 58, hm => exact pg_ok58 (pc, i) hm
  | 59, hm => exact pg_ok59 (pc, i) hm
  | 60, hm => exact pg_ok60 (pc, i) hm
  | 61, hm => exact pg_ok61 (pc, i) hm
  | 62, hm => exact pg_ok62 (pc, i) hm
  | 63, hm => exact pg_ok63 (pc, i) hm
  | 64, hm => exact pg_ok64 (pc, i) hm
  | 65, hm => exact pg_ok65 (pc, i) hm
  | 66, hm => exact pg_ok66 (pc, i) hm
  | 67, hm => exact pg_ok67 (pc, i) hm
  | 68, hm => exact pg_ok68 (pc, i) hm
  | 69, hm => exact pg_ok69 (pc, i) hm
  | 70, hm => exact pg_ok70 (pc, i) hm
  | 71, hm => exact pg_ok71 (pc, i) hm
  | 72, hm => exact pg_ok72 (pc, i) hm
  | 73, hm => exact pg_ok73 (pc, i) hm
  | 74, hm => exact pg_ok74 (pc, i) hm
  | 75, hm => exact pg_ok75 (pc, i) hm
  | 76, hm => exact pg_ok76 (pc, i) hm
  | 77, hm => exact pg_ok77 (pc, i) hm
  | 78, hm => exact pg_ok78 (pc, i) hm
  | 79, hm => exact pg_ok79 (pc, i) hm
  | 80, hm => exact pg_ok80 (pc, i) hm
  | 81, hm => exact pg_ok81 (pc, i) hm
  | 82, hm => exact pg_ok82 (pc, i) hm
  | 83, hm => exact pg_ok83 (pc, i) hm
  | 84, hm => exact pg_ok84 (pc, i) hm
  | 85, hm => exact pg_ok85 (pc, i) hm
  | 86, hm => exact pg_ok86 (pc, i) hm
  | 87, hm => exact pg_ok87 (pc, i) hm
  | 88, hm => exact pg_ok88 (pc, i) hm
  | 89, hm => exact pg_ok89 (pc, i) hm
  | 90, hm => exact pg_ok90 (pc, i) hm
  | 91, hm => exact pg_ok91 (pc, i) hm
  | 92, hm => exact pg_ok92 (pc, i) hm
  | 93, hm => exact pg_ok93 (pc, i) hm
  | 94, hm => exact pg_ok94 (pc, i) hm
  | 95, hm => exact pg_ok95 (pc, i) hm
  | 96, hm => exact pg_ok96 (pc, i) hm
  | 97, hm => exact pg_ok97 (pc, i) hm
  | 98, hm => exact pg_ok98 (pc, i) hm
  | 99, hm => exact pg_ok99 (pc, i) hm
  | 100, hm => exact pg_ok100 (pc, i) hm
  | 101, hm => exact pg_ok101 (pc, i) hm
  | 102, hm => exact pg_ok102 (pc, i) hm
  | k + 103, hm => exact absurd hm List.not_mem_nil

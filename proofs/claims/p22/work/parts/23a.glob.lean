
theorem tin_x7r : ∀ w ∈ s2W RX7 7 x7r yX3_reachBy wsX3_reachBy, w ∈ lw_tbl := by
  intro w hw
  rcases List.mem_append.mp hw with q | q
  · exact tb_of [674, 675, 622, 589, 659, 67] rfl rfl w q
  · exact wsL_law_in w (ggL_law_X11_of w (ggX11_of_X8_reachOf w (ggX8_reachOf_X3_reachBy w q).1).1).1

theorem tin_x7g : ∀ w ∈ s2W RX7 22 x7g yX3_doGoes wsX3_doGoes, w ∈ lw_tbl := by
  intro w hw
  rcases List.mem_append.mp hw with q | q
  · exact tb_of [1044, 1045, 622, 589, 1028, 67] rfl rfl w q
  · exact wsL_law_in w (ggL_law_X11_act w (ggX11_act_X3_doGoes w q).1).1

theorem tin_x9s : ∀ w ∈ s2W RX9 21 x9s yX3_doSees wsX3_doSees, w ∈ lw_tbl := by
  intro w hw
  rcases List.mem_append.mp hw with q | q
  · exact tb_of [1021, 1022, 611, 578, 920, 67] rfl rfl w q
  · exact wsL_law_in w (ggL_law_X11_act w (ggX11_act_X3_doSees w q).1).1

theorem tin_x10l : ∀ w ∈ s2W RX10 40 x10l yX3_doLooks wsX3_doLooks, w ∈ lw_tbl := by
  intro w hw
  rcases List.mem_append.mp hw with q | q
  · exact tb_of [1070, 1071, 600, 567, 1052, 67] rfl rfl w q
  · exact wsL_law_in w (ggL_law_X11_act w (ggX11_act_X3_doLooks w q).1).1

theorem tin_old : ∀ w ∈ oldW, w ∈ lw_tbl := List.forall_mem_append.mpr ⟨List.forall_mem_append.mpr ⟨tin_x7r, tin_x7g⟩, List.forall_mem_append.mpr ⟨tin_x9s, tin_x10l⟩⟩

theorem tin_b4 : ∀ w ∈ u2W RX4 17 xb4 yX3_begin wsX3_begin, w ∈ lw_tbl := by
  intro w hw
  rcases List.mem_append.mp hw with q | q
  · exact tb_of [927, 928, 929, 67] rfl rfl w q
  · exact wsL_law_in w (ggL_law_X11_act w (ggX11_act_X3_doSees w (ggX3_doSees_X3_begin w q).1).1).1

theorem tin_b6 : ∀ w ∈ u2W RX6 11 xb6 yX3_begin wsX3_begin, w ∈ lw_tbl := by
  intro w hw
  rcases List.mem_append.mp hw with q | q
  · exact tb_of [1036, 1037, 929, 67] rfl rfl w q
  · exact wsL_law_in w (ggL_law_X11_act w (ggX11_act_X3_doSees w (ggX3_doSees_X3_begin w q).1).1).1

theorem tin_b1 : ∀ w ∈ u2W RX1 7 xb1 yX3_begin wsX3_begin, w ∈ lw_tbl := by
  intro w hw
  rcases List.mem_append.mp hw with q | q
  · exact tb_of [1058, 1059, 929, 67] rfl rfl w q
  · exact wsL_law_in w (ggL_law_X11_act w (ggX11_act_X3_doSees w (ggX3_doSees_X3_begin w q).1).1).1

theorem tin_b9 : ∀ w ∈ u2W RX9 17 xb9 yX3_begin wsX3_begin, w ∈ lw_tbl := by
  intro w hw
  rcases List.mem_append.mp hw with q | q
  · exact tb_of [1019, 1020, 929, 67] rfl rfl w q
  · exact wsL_law_in w (ggL_law_X11_act w (ggX11_act_X3_doSees w (ggX3_doSees_X3_begin w q).1).1).1

theorem tin_b10 : ∀ w ∈ u2W RX10 36 xb10 yX3_begin wsX3_begin, w ∈ lw_tbl := by
  intro w hw
  rcases List.mem_append.mp hw with q | q
  · exact tb_of [1068, 1069, 929, 67] rfl rfl w q
  · exact wsL_law_in w (ggL_law_X11_act w (ggX11_act_X3_doSees w (ggX3_doSees_X3_begin w q).1).1).1

theorem tin_b7 : ∀ w ∈ u2W RX7 16 xb7 yX3_begin wsX3_begin, w ∈ lw_tbl := by
  intro w hw
  rcases List.mem_append.mp hw with q | q
  · exact tb_of [1042, 1043, 929, 67] rfl rfl w q
  · exact wsL_law_in w (ggL_law_X11_act w (ggX11_act_X3_doSees w (ggX3_doSees_X3_begin w q).1).1).1

theorem tin_beg : ∀ w ∈ begW, w ∈ lw_tbl := List.forall_mem_append.mpr ⟨tin_b4, List.forall_mem_append.mpr ⟨tin_b6, List.forall_mem_append.mpr ⟨tin_b1, List.forall_mem_append.mpr ⟨tin_b9, List.forall_mem_append.mpr ⟨tin_b10, tin_b7⟩⟩⟩⟩⟩

theorem nestW_in : ∀ w ∈ nestW, w ∈ lw_tbl := by decide +kernel
theorem castW_in : ∀ w ∈ castW, w ∈ lw_tbl := by decide +kernel
theorem nestF_in : ∀ w ∈ nestF, w ∈ lw_tbl := by decide +kernel

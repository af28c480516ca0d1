def fv_kA (own : String) (idx : Nat) : Prop := Cond.methodLink own idx arraycopyName ∈ fv_g ∧ Cond.native arraycopyName ∈ fv_g ∧ Cond.static arraycopyName ∈ fv_g ∧ Cond.initialized "java/lang/System" ∈ fv_g
theorem ac_n : Cond.native arraycopyName ∈ fv_g := fv_mem 527 (by decide +kernel) rfl
theorem ac_s : Cond.static arraycopyName ∈ fv_g := fv_mem 526 (by decide +kernel) rfl
theorem ac_i : Cond.initialized "java/lang/System" ∈ fv_g := fv_mem 79 (by decide +kernel) rfl
theorem ks_X0_31 : fv_kA RX0 31 := ⟨fv_mem 525 (by decide +kernel) rfl, ac_n, ac_s, ac_i⟩
theorem ks_X4_58 : fv_kA RX4 58 := ⟨fv_mem 532 (by decide +kernel) rfl, ac_n, ac_s, ac_i⟩
theorem ks_X2_57 : fv_kA RX2 57 := ⟨fv_mem 623 (by decide +kernel) rfl, ac_n, ac_s, ac_i⟩
theorem ks_X6_270 : fv_kA RX6 270 := ⟨fv_mem 886 (by decide +kernel) rfl, ac_n, ac_s, ac_i⟩

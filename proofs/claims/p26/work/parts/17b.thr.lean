theorem zfit1 : Bundle.fit (zEx 1) = true := by decide +kernel
theorem zfit2 : Bundle.fit (zEx 2) = true := by decide +kernel
theorem zfit3 : Bundle.fit (zEx 3) = true := by decide +kernel
theorem zbad1 : ∀ w ∈ (vx_atS RX4 142 (zEx 1) [zRun, zExc]).filter (fun w => !goodWord w), w ∈ [Cond.declares (Bundle.initS zRun), Cond.declares (Bundle.initS zExc), Cond.declares (Bundle.initS Bundle.tN), Cond.castable (zEx 1) (zEx 1)] := by decide +kernel
theorem zbad2 : ∀ w ∈ (vx_atS RX4 186 (zEx 2) [zRun, zExc]).filter (fun w => !goodWord w), w ∈ [Cond.declares (Bundle.initS zRun), Cond.declares (Bundle.initS zExc), Cond.declares (Bundle.initS Bundle.tN), Cond.castable (zEx 2) (zEx 2)] := by decide +kernel
theorem zbad3 : ∀ w ∈ (vx_atS RX4 99 (zEx 3) [zRun, zExc]).filter (fun w => !goodWord w), w ∈ [Cond.declares (Bundle.initS zRun), Cond.declares (Bundle.initS zExc), Cond.declares (Bundle.initS Bundle.tN), Cond.castable (zEx 3) (zEx 3)] := by decide +kernel
theorem znc1 : (zEx 1, zEx 1) ∈ zNC := by decide +kernel
theorem znc2 : (zEx 2, zEx 2) ∈ zNC := by decide +kernel
theorem znc3 : (zEx 3, zEx 3) ∈ zNC := by decide +kernel
theorem zgood1 : ∀ w ∈ Cond.classLink RX4 138 (zEx 1) :: Cond.initialized (zEx 1) :: vx_atS RX4 142 (zEx 1) [zRun, zExc], vx_ot w = true := by decide +kernel
theorem zgood2 : ∀ w ∈ Cond.classLink RX4 182 (zEx 2) :: Cond.initialized (zEx 2) :: vx_atS RX4 186 (zEx 2) [zRun, zExc], vx_ot w = true := by decide +kernel
theorem zgood3 : ∀ w ∈ Cond.classLink RX4 95 (zEx 3) :: Cond.initialized (zEx 3) :: vx_atS RX4 99 (zEx 3) [zRun, zExc], vx_ot w = true := by decide +kernel

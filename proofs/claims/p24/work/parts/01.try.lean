set_option maxRecDepth 1000000 in
theorem zz_620 : Nat.ble (stepsAlone start1.p0.tables start1.e0 620 start1.about).heap.size 300 = true := by decide +kernel
set_option maxRecDepth 1000000 in
theorem zz_640 : Nat.ble (stepsAlone start1.p0.tables start1.e0 640 start1.about).heap.size 300 = true := by decide +kernel
set_option maxRecDepth 1000000 in
theorem zz_660 : Nat.ble (stepsAlone start1.p0.tables start1.e0 660 start1.about).heap.size 300 = true := by decide +kernel
set_option maxRecDepth 1000000 in
theorem zz_680 : Nat.ble (stepsAlone start1.p0.tables start1.e0 680 start1.about).heap.size 300 = true := by decide +kernel

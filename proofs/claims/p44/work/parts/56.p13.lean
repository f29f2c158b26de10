/-! Printed by wip/ai/tab.py. -/
set_option maxRecDepth 1000000 in
theorem okP1 : PmOK rgT pm1 := pm_cut 1 (-1) okP1_0 (pm_cut 1 5 okP1_1 (pm_cut 1 11 okP1_2 (pm_cut 1 17 okP1_3 (pm_cut 1 23 okP1_4 (okP1_5)))))

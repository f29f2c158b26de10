/-! Printed by wip/ai/tab.py. -/
set_option maxRecDepth 1000000 in
theorem okP0 : PmOK rgT pm0 := pm_cut 5 5 okP0_0 (pm_cut 5 10 okP0_1 (pm_cut 5 15 okP0_2 (pm_cut 5 20 okP0_3 (okP0_4))))

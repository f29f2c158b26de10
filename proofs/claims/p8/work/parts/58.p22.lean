/-! Printed by wip/ai/tab.py. -/
set_option maxRecDepth 1000000 in
theorem okP14 : PmOK rgT pm14 := (pm_cutG 2 1 (pm_cutG 17 0 okP14_0 okP14_1) (pm_cutG 2 2 (pm_cutG 17 0 (pm_cutG 18 0 okP14_2 okP14_3) (pm_cutG 18 0 okP14_4 okP14_5)) (pm_cutG 17 0 (pm_cutG 18 0 (pm_cutG 19 0 okP14_6 okP14_7) (pm_cutG 19 0 okP14_8 okP14_9)) (pm_cutG 19 0 (pm_cutG 18 0 okP14_10 okP14_11) (pm_cutG 18 1 okP14_12 okP14_13)))))

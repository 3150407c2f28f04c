/-! a large certificate: cuts one by one (wip/gencert.py) -/
set_option maxRecDepth 1000000 in
theorem cq_212_73 : cy_212_73.all (cok stp_212 (csOf ct_212) 1 654) = true := by decide +kernel
set_option maxRecDepth 1000000 in
theorem cq_212_74 : cy_212_74.all (cok stp_212 (csOf ct_212) 1 654) = true := by decide +kernel
set_option maxRecDepth 1000000 in
theorem cq_212_75 : cy_212_75.all (cok stp_212 (csOf ct_212) 1 654) = true := by decide +kernel
set_option maxRecDepth 1000000 in
theorem cq_212_76 : cy_212_76.all (cok stp_212 (csOf ct_212) 1 654) = true := by decide +kernel
set_option maxRecDepth 1000000 in
theorem cq_212_77 : cy_212_77.all (cok stp_212 (csOf ct_212) 1 654) = true := by decide +kernel
set_option maxRecDepth 1000000 in
theorem cq_212_78 : cy_212_78.all (cok stp_212 (csOf ct_212) 1 654) = true := by decide +kernel
set_option maxRecDepth 1000000 in
theorem cq_212_79 : cy_212_79.all (cok stp_212 (csOf ct_212) 1 654) = true := by decide +kernel
set_option maxRecDepth 1000000 in
theorem cq_212_80 : cy_212_80.all (cok stp_212 (csOf ct_212) 1 654) = true := by decide +kernel
set_option maxRecDepth 1000000 in
theorem cq_212_81 : cy_212_81.all (cok stp_212 (csOf ct_212) 1 654) = true := by decide +kernel
set_option maxRecDepth 1000000 in
theorem cq_212_82 : cy_212_82.all (cok stp_212 (csOf ct_212) 1 654) = true := by decide +kernel
set_option maxRecDepth 1000000 in
theorem cq_212_83 : cy_212_83.all (cok stp_212 (csOf ct_212) 1 654) = true := by decide +kernel
set_option maxRecDepth 1000000 in
theorem cq_212_84 : cy_212_84.all (cok stp_212 (csOf ct_212) 1 654) = true := by decide +kernel
set_option maxRecDepth 1000000 in
theorem cq_212_85 : cy_212_85.all (cok stp_212 (csOf ct_212) 1 654) = true := by decide +kernel
set_option maxRecDepth 1000000 in
theorem cq_212_86 : cy_212_86.all (cok stp_212 (csOf ct_212) 1 654) = true := by decide +kernel
set_option maxRecDepth 1000000 in
theorem cq_212_87 : cy_212_87.all (cok stp_212 (csOf ct_212) 1 654) = true := by decide +kernel
set_option maxRecDepth 1000000 in
theorem cq_212_88 : cy_212_88.all (cok stp_212 (csOf ct_212) 1 654) = true := by decide +kernel
set_option maxRecDepth 1000000 in
theorem cq_212_89 : cy_212_89.all (cok stp_212 (csOf ct_212) 1 654) = true := by decide +kernel
set_option maxRecDepth 1000000 in
theorem cq_212_90 : cy_212_90.all (cok stp_212 (csOf ct_212) 1 654) = true := by decide +kernel
set_option maxRecDepth 1000000 in
theorem cq_212_91 : cy_212_91.all (cok stp_212 (csOf ct_212) 1 654) = true := by decide +kernel
set_option maxRecDepth 1000000 in
theorem cq_212_92 : cy_212_92.all (cok stp_212 (csOf ct_212) 1 654) = true := by decide +kernel
set_option maxRecDepth 1000000 in
theorem cq_212_93 : cy_212_93.all (cok stp_212 (csOf ct_212) 1 654) = true := by decide +kernel
set_option maxRecDepth 1000000 in
theorem cq_212_94 : cy_212_94.all (cok stp_212 (csOf ct_212) 1 654) = true := by decide +kernel
set_option maxRecDepth 1000000 in
theorem cq_212_95 : cy_212_95.all (cok stp_212 (csOf ct_212) 1 654) = true := by decide +kernel
set_option maxRecDepth 1000000 in
theorem cq_212_96 : cy_212_96.all (cok stp_212 (csOf ct_212) 1 654) = true := by decide +kernel
set_option maxRecDepth 1000000 in
theorem cq_212_97 : cy_212_97.all (cok stp_212 (csOf ct_212) 1 654) = true := by decide +kernel
set_option maxRecDepth 1000000 in
theorem cq_212_98 : cy_212_98.all (cok stp_212 (csOf ct_212) 1 654) = true := by decide +kernel
set_option maxRecDepth 1000000 in
theorem cq_212_99 : cy_212_99.all (cok stp_212 (csOf ct_212) 1 654) = true := by decide +kernel
set_option maxRecDepth 1000000 in
theorem cq_212_100 : cy_212_100.all (cok stp_212 (csOf ct_212) 1 654) = true := by decide +kernel
set_option maxRecDepth 1000000 in
theorem cq_212_101 : cy_212_101.all (cok stp_212 (csOf ct_212) 1 654) = true := by decide +kernel
set_option maxRecDepth 1000000 in
theorem cq_212_102 : cy_212_102.all (cok stp_212 (csOf ct_212) 1 654) = true := by decide +kernel
set_option maxRecDepth 1000000 in
theorem cq_212_103 : cy_212_103.all (cok stp_212 (csOf ct_212) 1 654) = true := by decide +kernel
set_option maxRecDepth 1000000 in
theorem cq_212_104 : cy_212_104.all (cok stp_212 (csOf ct_212) 1 654) = true := by decide +kernel
set_option maxRecDepth 1000000 in
theorem cq_212_105 : cy_212_105.all (cok stp_212 (csOf ct_212) 1 654) = true := by decide +kernel
set_option maxRecDepth 1000000 in
theorem cq_212_106 : cy_212_106.all (cok stp_212 (csOf ct_212) 1 654) = true := by decide +kernel
set_option maxRecDepth 1000000 in
theorem cq_212_107 : cy_212_107.all (cok stp_212 (csOf ct_212) 1 654) = true := by decide +kernel
set_option maxRecDepth 1000000 in
theorem cq_212_108 : cy_212_108.all (cok stp_212 (csOf ct_212) 1 654) = true := by decide +kernel
set_option maxRecDepth 1000000 in
theorem cq_212_109 : cy_212_109.all (cok stp_212 (csOf ct_212) 1 654) = true := by decide +kernel
set_option maxRecDepth 1000000 in
theorem cq_212_110 : cy_212_110.all (cok stp_212 (csOf ct_212) 1 654) = true := by decide +kernel
set_option maxRecDepth 1000000 in
theorem cq_212_111 : cy_212_111.all (cok stp_212 (csOf ct_212) 1 654) = true := by decide +kernel
set_option maxRecDepth 1000000 in
theorem cq_212_112 : cy_212_112.all (cok stp_212 (csOf ct_212) 1 654) = true := by decide +kernel
set_option maxRecDepth 1000000 in
theorem cq_212_113 : cy_212_113.all (cok stp_212 (csOf ct_212) 1 654) = true := by decide +kernel
set_option maxRecDepth 1000000 in
theorem cq_212_114 : cy_212_114.all (cok stp_212 (csOf ct_212) 1 654) = true := by decide +kernel
set_option maxRecDepth 1000000 in
theorem cq_212_115 : cy_212_115.all (cok stp_212 (csOf ct_212) 1 654) = true := by decide +kernel
set_option maxRecDepth 1000000 in
theorem cq_212_116 : cy_212_116.all (cok stp_212 (csOf ct_212) 1 654) = true := by decide +kernel
set_option maxRecDepth 1000000 in
theorem cq_212_117 : cy_212_117.all (cok stp_212 (csOf ct_212) 1 654) = true := by decide +kernel
set_option maxRecDepth 1000000 in
theorem cq_212_118 : cy_212_118.all (cok stp_212 (csOf ct_212) 1 654) = true := by decide +kernel
set_option maxRecDepth 1000000 in
theorem cq_212_119 : cy_212_119.all (cok stp_212 (csOf ct_212) 1 654) = true := by decide +kernel
set_option maxRecDepth 1000000 in
theorem cq_212_120 : cy_212_120.all (cok stp_212 (csOf ct_212) 1 654) = true := by decide +kernel
set_option maxRecDepth 1000000 in
theorem cq_212_121 : cy_212_121.all (cok stp_212 (csOf ct_212) 1 654) = true := by decide +kernel
set_option maxRecDepth 1000000 in
theorem cq_212_122 : cy_212_122.all (cok stp_212 (csOf ct_212) 1 654) = true := by decide +kernel
set_option maxRecDepth 1000000 in
theorem cq_212_123 : cy_212_123.all (cok stp_212 (csOf ct_212) 1 654) = true := by decide +kernel
set_option maxRecDepth 1000000 in
theorem cq_212_124 : cy_212_124.all (cok stp_212 (csOf ct_212) 1 654) = true := by decide +kernel
set_option maxRecDepth 1000000 in
theorem cq_212_125 : cy_212_125.all (cok stp_212 (csOf ct_212) 1 654) = true := by decide +kernel
set_option maxRecDepth 1000000 in
theorem cq_212_126 : cy_212_126.all (cok stp_212 (csOf ct_212) 1 654) = true := by decide +kernel
set_option maxRecDepth 1000000 in
theorem cq_212_127 : cy_212_127.all (cok stp_212 (csOf ct_212) 1 654) = true := by decide +kernel
set_option maxRecDepth 1000000 in
theorem cq_212_128 : cy_212_128.all (cok stp_212 (csOf ct_212) 1 654) = true := by decide +kernel
set_option maxRecDepth 1000000 in
theorem cq_212_129 : cy_212_129.all (cok stp_212 (csOf ct_212) 1 654) = true := by decide +kernel
set_option maxRecDepth 1000000 in
theorem cq_212_130 : cy_212_130.all (cok stp_212 (csOf ct_212) 1 654) = true := by decide +kernel
set_option maxRecDepth 1000000 in
theorem cq_212_131 : cy_212_131.all (cok stp_212 (csOf ct_212) 1 654) = true := by decide +kernel
set_option maxRecDepth 1000000 in
theorem cq_212_132 : cy_212_132.all (cok stp_212 (csOf ct_212) 1 654) = true := by decide +kernel
set_option maxRecDepth 1000000 in
theorem cq_212_133 : cy_212_133.all (cok stp_212 (csOf ct_212) 1 654) = true := by decide +kernel
set_option maxRecDepth 1000000 in
theorem cq_212_134 : cy_212_134.all (cok stp_212 (csOf ct_212) 1 654) = true := by decide +kernel
set_option maxRecDepth 1000000 in
theorem cq_212_135 : cy_212_135.all (cok stp_212 (csOf ct_212) 1 654) = true := by decide +kernel
set_option maxRecDepth 1000000 in
theorem cq_212_136 : cy_212_136.all (cok stp_212 (csOf ct_212) 1 654) = true := by decide +kernel
set_option maxRecDepth 1000000 in
theorem cq_212_137 : cy_212_137.all (cok stp_212 (csOf ct_212) 1 654) = true := by decide +kernel
set_option maxRecDepth 1000000 in
theorem cq_212_138 : cy_212_138.all (cok stp_212 (csOf ct_212) 1 654) = true := by decide +kernel
set_option maxRecDepth 1000000 in
theorem cq_212_139 : cy_212_139.all (cok stp_212 (csOf ct_212) 1 654) = true := by decide +kernel
set_option maxRecDepth 1000000 in
theorem cq_212_140 : cy_212_140.all (cok stp_212 (csOf ct_212) 1 654) = true := by decide +kernel
set_option maxRecDepth 1000000 in
theorem cq_212_141 : cy_212_141.all (cok stp_212 (csOf ct_212) 1 654) = true := by decide +kernel
set_option maxRecDepth 1000000 in
theorem cq_212_142 : cy_212_142.all (cok stp_212 (csOf ct_212) 1 654) = true := by decide +kernel
set_option maxRecDepth 1000000 in
theorem cq_212_143 : cy_212_143.all (cok stp_212 (csOf ct_212) 1 654) = true := by decide +kernel
set_option maxRecDepth 1000000 in
theorem cq_212_144 : cy_212_144.all (cok stp_212 (csOf ct_212) 1 654) = true := by decide +kernel
set_option maxRecDepth 1000000 in
theorem cq_212_145 : cy_212_145.all (cok stp_212 (csOf ct_212) 1 654) = true := by decide +kernel

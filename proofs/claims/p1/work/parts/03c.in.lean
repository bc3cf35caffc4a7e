set_option maxRecDepth 20000 in
theorem wp_in0 : GoodIn lw_tbl wp := goodIn_p wp [228, 235, 269, 263, 298, 343, 374, 402, 463, 527, 547, 567, 1247, 1243, 722, 716, 719, 712, 670, 674, 678, 700, 704, 708, 666, 662, 1906, 2204, 2330, 1926, 1947, 1918, 1922, 1914, 2443, 225, 1690, 650, 1899, 654, 1903, 658, 1910, 1204, 2188, 1208, 2192, 1239, 2200, 1256, 2208, 1300, 2238, 1305, 2242, 1324, 2258, 1329, 2262, 1339, 2270, 1344, 2274, 1351, 2278, 1408, 2290, 1416, 2314, 1424, 2322, 1430, 2326, 1435, 2334, 1551, 2394, 1586, 2406, 1591, 2410, 1599, 2418, 1612, 2426, 1616, 2435, 2439, 1895] (by decide +kernel) (by decide +kernel)
theorem wp_in : ∀ w ∈ wp, w ∈ lw_tbl := fun w h => (wp_in0 w h).1
theorem nwM_in : ∀ q ∈ nwM, Cond.methodLinkNest q.1 q.2.1 q.2.2.1 q.2.2.2 ∈ lw_tbl := by decide +kernel
theorem nwO_in : ∀ C ∈ nwO, Cond.arrayOver (.object C) ∈ lw_tbl := by decide +kernel
theorem lw_nw {s : State} {b : Nat} (hts : ∀ w ∈ lw_tbl, w.before #[Value.ref b] s = true) : nw s := ⟨fun q hq => va_Nw.of rfl (hts _ (nwM_in q hq)), fun C hC => va_AO.of (hts _ (nwO_in C hC))⟩

theorem g_law : g_Law := sorry

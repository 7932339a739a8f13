set_option maxRecDepth 100000 in
theorem gL_wsL_law_r27 : GoodIn lw_tbl wsL_law_r27 := goodIn_r wsL_law_r27 [890, 891, 892, 893, 894, 895, 896, 947, 948, 949, 905, 906, 907, 908, 909, 911, 33, 912, 913, 914, 915, 916, 917, 918] rfl (by decide +kernel)
set_option maxRecDepth 100000 in
theorem gL_wsL_law_r28 : GoodIn lw_tbl wsL_law_r28 := goodIn_r wsL_law_r28 [919, 920, 921, 922, 923, 924, 925, 926, 927, 928, 950, 951, 952, 953, 937, 938, 939, 929, 930, 931, 932, 829, 830, 831] rfl (by decide +kernel)
set_option maxRecDepth 100000 in
theorem gL_wsL_law_r29 : GoodIn lw_tbl wsL_law_r29 := goodIn_r wsL_law_r29 [832, 833, 834, 835, 252, 836, 253, 842, 841, 254, 837, 839, 27, 840, 844, 846, 28, 847, 848, 849, 850, 851, 852, 853] rfl (by decide +kernel)
set_option maxRecDepth 100000 in
theorem gL_wsL_law_r30 : GoodIn lw_tbl wsL_law_r30 := goodIn_r wsL_law_r30 [854, 856, 857, 859, 29, 860, 861, 862, 863, 864, 866, 30, 867, 868, 870, 31, 871, 872, 873, 874, 875, 933, 934, 935] rfl (by decide +kernel)
set_option maxRecDepth 100000 in
theorem gL_wsL_law_r31 : GoodIn lw_tbl wsL_law_r31 := goodIn_r wsL_law_r31 [936, 880, 882, 32, 883, 885, 886, 887, 888, 825, 826, 827, 828, 876, 877, 878, 879, 884, 786, 787, 788, 897, 898, 899] rfl (by decide +kernel)
set_option maxRecDepth 100000 in
theorem gL_wsL_law_r32 : GoodIn lw_tbl wsL_law_r32 := goodIn_r wsL_law_r32 [900, 901, 902, 903, 904] rfl (by decide +kernel)
set_option maxRecDepth 100000 in
theorem gL_wsX80 : GoodIn lw_tbl wsX80 := goodIn_p wsX80 [] rfl (by decide +kernel)
set_option maxRecDepth 100000 in
theorem gL_wsX70 : GoodIn lw_tbl wsX70 := goodIn_p wsX70 [] rfl (by decide +kernel)
set_option maxRecDepth 100000 in
theorem gL_wsX20 : GoodIn lw_tbl wsX20 := goodIn_p wsX20 [] rfl (by decide +kernel)
set_option maxRecDepth 100000 in
theorem gL_wsX30 : GoodIn lw_tbl wsX30 := goodIn_p wsX30 [] rfl (by decide +kernel)
set_option maxRecDepth 100000 in
theorem gL_wsX50 : GoodIn lw_tbl wsX50 := goodIn_p wsX50 [] rfl (by decide +kernel)
set_option maxRecDepth 100000 in
theorem gL_wsX40 : GoodIn lw_tbl wsX40 := goodIn_p wsX40 [] rfl (by decide +kernel)
set_option maxRecDepth 100000 in
theorem gL_wsX10 : GoodIn lw_tbl wsX10 := goodIn_p wsX10 [] rfl (by decide +kernel)
set_option maxRecDepth 100000 in
theorem gL_wsX00 : GoodIn lw_tbl wsX00 := goodIn_p wsX00 [] rfl (by decide +kernel)
set_option maxRecDepth 100000 in
theorem gL_wsX60 : GoodIn lw_tbl wsX60 := goodIn_p wsX60 [] rfl (by decide +kernel)

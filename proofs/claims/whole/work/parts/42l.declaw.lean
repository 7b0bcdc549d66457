theorem dL_law_1936 : decode cL_law 1936 = .ok (.dload 7, 2) := by decide +kernel
theorem dL_law_1938 : decode cL_law 1938 = .ok (.dcmp .l, 1) := by decide +kernel
theorem dL_law_1939 : decode cL_law 1939 = .ok (.ifCond .eq 21, 3) := by decide +kernel
theorem dL_law_1942 : decode cL_law 1942 = .ok (.dload 5, 2) := by decide +kernel
theorem dL_law_1944 : decode cL_law 1944 = .ok (.dload 5, 2) := by decide +kernel
theorem dL_law_1946 : decode cL_law 1946 = .ok (.dcmp .l, 1) := by decide +kernel
theorem dL_law_1947 : decode cL_law 1947 = .ok (.ifCond .eq 11, 3) := by decide +kernel
theorem dL_law_1950 : decode cL_law 1950 = .ok (.dload 7, 2) := by decide +kernel
theorem dL_law_1952 : decode cL_law 1952 = .ok (.dload 7, 2) := by decide +kernel
theorem dL_law_1954 : decode cL_law 1954 = .ok (.dcmp .l, 1) := by decide +kernel
theorem dL_law_1955 : decode cL_law 1955 = .ok (.ifCond .ne 5, 3) := by decide +kernel
theorem dL_law_1958 : decode cL_law 1958 = .ok (.iconst 0, 1) := by decide +kernel
theorem dL_law_1959 : decode cL_law 1959 = .ok (.ireturn, 1) := by decide +kernel
theorem dL_law_1960 : decode cL_law 1960 = .ok (.goto 17, 3) := by decide +kernel
theorem dL_law_1963 : decode cL_law 1963 = .ok (.aload_n 1, 1) := by decide +kernel
theorem dL_law_1964 : decode cL_law 1964 = .ok (.invokevirtual 197, 3) := by decide +kernel
theorem dL_law_1967 : decode cL_law 1967 = .ok (.aload_n 2, 1) := by decide +kernel
theorem dL_law_1968 : decode cL_law 1968 = .ok (.invokevirtual 201, 3) := by decide +kernel
theorem dL_law_1971 : decode cL_law 1971 = .ok (.lcmp, 1) := by decide +kernel
theorem dL_law_1972 : decode cL_law 1972 = .ok (.ifCond .eq 5, 3) := by decide +kernel
theorem dL_law_1975 : decode cL_law 1975 = .ok (.iconst 0, 1) := by decide +kernel
theorem dL_law_1976 : decode cL_law 1976 = .ok (.ireturn, 1) := by decide +kernel
theorem dL_law_1977 : decode cL_law 1977 = .ok (.iinc 4 8, 3) := by decide +kernel
theorem dL_law_1980 : decode cL_law 1980 = .ok (.goto (-1957), 3) := by decide +kernel
theorem dL_law_1983 : decode cL_law 1983 = .ok (.iconst 1, 1) := by decide +kernel
theorem dL_law_1984 : decode cL_law 1984 = .ok (.ireturn, 1) := by decide +kernel
